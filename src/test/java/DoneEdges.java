/** Promises 10 to 16: what is done. */
final class DoneEdges {
    private static final int UNKNOWN = Edges.UNKNOWN, OUTSIDE = Edges.OUTSIDE;
    private static final int STATE = Edges.STATE, FULL = Edges.FULL;
    private static final String FOUR = "ca8b6c4d;32;f", TEN = "2a".repeat(10) + ";01;";

    private final Edges e;

    DoneEdges(Edges edges) {
        e = edges;
    }

    void test() {
        ask();
        askRefused();
        serve();
        serveRefused();
        read();
        readRefused();
        pass();
        choose();
        skew();
        gear();
    }

    private static RingArm four() {
        return Check.plate(FOUR);
    }

    /**
     * A plate of 12 places on ring 0 at a tick. The last ticks are beyond what 512 calls reach; the document tells
     * of them all the same.
     */
    static RingArm atTick(int tick) {
        RingArm x = Check.plate("ca2a2a2a;91;s");
        while (x.count(2) < tick) {
            x.pass(Math.min(99, tick - x.count(2)));
        }
        return x;
    }

    private void ask() {
        e.of(10, "A PLACE is ASKED: how many are. ");
        RingArm x = four();
        for (int n = 1; n <= 7; n++) {
            e.due("ask", x.ask(n % 4, 0), n);
            e.due("so many are", x.count(5), n);
            e.due("it is the last one", x.asked(n - 1, 0), n % 4);
        }
        x.serve();
        e.due("room again", x.ask(3, 3), 7);
        e.due("it is the last one", x.asked(6, 1), 3);
    }

    private void askRefused() {
        e.of(10, "UNKNOWN: ring, place; ");
        e.range("ring of four", DoneEdges::four, (x, ring) -> x.ask(ring, 0), 0, 3, UNKNOWN);
        e.range("ring of ten", () -> Check.plate(TEN + "f"), (x, ring) -> x.ask(ring, 0), 0, 9, UNKNOWN);
        int[] places = {2, 3, 4, 6, 8, 12};
        for (int r = 0; r < 6; r++) {
            int ring = r;
            e.range("place of " + places[r], () -> Check.plate("2a3a4a6a8aca;01;f"),
                (x, place) -> x.ask(ring, place), 0, places[r] - 1, UNKNOWN);
        }
        e.due("no plate", new RingArm().ask(0, 0), UNKNOWN);
        e.of(10, "FULL.");
        RingArm x = four();
        for (int n = 0; n < 6; n++) {
            x.ask(0, 11);
        }
        e.due("the seventh", x.ask(0, 11), 7);
        e.due("the eighth", x.ask(0, 11), FULL);
        e.due("the eighth on another ring", x.ask(3, 0), FULL);
        e.due("UNKNOWN ring is ahead of FULL", x.ask(4, 0), UNKNOWN);
        e.due("UNKNOWN place is ahead of FULL", x.ask(0, 12), UNKNOWN);
        e.due("seven are asked", x.count(5), 7);
    }

    private void serve() {
        e.of(11, "The NEXT one is DONE: at which TICK. ");
        for (int kind = 0; kind < 5; kind++) {
            RingArm x = four();
            x.choose(kind);
            for (int n = 0; n < 7; n++) {
                x.ask((3 * n + 2) % 4, n % 4);
            }
            for (int left = 6; left >= 0; left--) {
                int next = x.next();
                int ring = x.asked(next, 0);
                int done = x.asked(next, 3);
                e.due("serve() by kind " + kind, x.serve(), done);
                e.due("the tick", x.count(2), done);
                e.due("the arm", x.count(3), ring);
                e.due("left", x.count(5), left);
                if (kind != 2) {
                    e.due("but for a SWEEP it goes on as it goes", x.count(4), 1);
                }
            }
        }
    }

    private void serveRefused() {
        e.of(11, "STATE: no PLATE, or nothing is ASKED; ");
        e.due("no plate", new RingArm().serve(), STATE);
        RingArm x = four();
        e.due("nothing is asked", x.serve(), STATE);
        x.ask(0, 0);
        e.due("one is", x.serve(), 2);
        e.due("nothing is asked any more", x.serve(), STATE);
        e.of(11, "FULL: it would be behind TICK 100000.");
        // 99998 by 24 leaves 14, where place 7 of ring 0 begins
        RingArm y = atTick(99998);
        y.ask(0, 7);
        e.due("at the last tick", y.serve(), 100000);
        y.ask(0, 8);
        e.due("behind it", y.serve(), FULL);
        RingArm z = atTick(99998);
        z.ask(0, 7);
        z.skew(0, 1);
        e.due("a tick behind it", z.asked(0, 3), 100001);
        e.due("a tick behind it", z.serve(), FULL);
        e.due("the tick stays", z.count(2), 99998);
        e.due("it is asked yet", z.count(5), 1);
        e.due("nothing is asked, near the end", atTick(100000).serve(), STATE);
        turnRefused();
    }

    private void turnRefused() {
        RingArm x = atTick(99900);
        x.ask(3, 0);
        e.due("there is time yet", x.read(0), 99924);
        while (x.count(2) < 99998) {
            x.pass(1);
        }
        x.ask(0, 0);
        e.due("inward", x.count(4), 1);
        e.due("it would turn about", x.serve(), FULL);
        e.due("how it goes stays", x.count(4), 1);
        e.due("the arm stays", x.count(3), 3);
    }

    private void read() {
        e.of(12, "One that is ASKED is DONE, whatever THE POLICY says (how the arm goes stays): at which TICK. ");
        for (int kind = 0; kind < 5; kind++) {
            RingArm x = Check.plate(TEN + "s");
            x.choose(kind);
            for (int ring = 0; ring < 7; ring++) {
                x.ask(ring, 1);
            }
            e.due("the last one", x.read(6), 24);
            e.due("the arm", x.count(3), 6);
            e.due("the first one", x.read(0), 48);
            e.due("the arm", x.count(3), 0);
            e.due("inward yet", x.count(4), 1);
            e.due("left", x.count(5), 5);
        }
        RingArm y = Check.plate(TEN + "s");
        y.ask(5, 0);
        y.serve();
        y.ask(4, 0);
        y.serve();
        y.ask(9, 0);
        y.read(0);
        e.due("outward yet", y.count(4), 0);
    }

    private void readRefused() {
        e.of(12, "UNKNOWN: number; ");
        e.due("no plate", new RingArm().read(0), UNKNOWN);
        e.due("nothing is asked", four().read(0), UNKNOWN);
        for (int many = 1; many <= 7; many++) {
            int asked = many;
            e.range("read of " + many, () -> askedSoMany(asked), (x, n) -> x.read(n), 0, many - 1, UNKNOWN);
        }
        e.of(12, "FULL: as above.");
        RingArm x = atTick(99998);
        x.ask(0, 7);
        x.ask(0, 8);
        e.due("behind the last tick", x.read(1), FULL);
        e.due("both are asked yet", x.count(5), 2);
        e.due("at the last tick", x.read(0), 100000);
        e.due("behind it", x.read(0), FULL);
        e.due("UNKNOWN", x.read(1), UNKNOWN);
        RingArm y = atTick(99998);
        y.ask(0, 7);
        y.skew(0, 1);
        e.due("a tick behind it", y.read(0), FULL);
        e.due("the tick stays", y.count(2), 99998);
    }

    private static RingArm askedSoMany(int many) {
        RingArm x = four();
        for (int n = 0; n < many; n++) {
            x.ask(n % 4, 0);
        }
        return x;
    }

    private void pass() {
        e.of(13, "TICKS go by: which it is. ");
        RingArm x = four();
        x.ask(0, 0);
        e.due("pass(1)", x.pass(1), 1);
        e.due("pass(99)", x.pass(99), 100);
        e.due("the tick", x.count(2), 100);
        e.due("since when stays", x.asked(0, 2), 0);
        e.of(13, "OUTSIDE: ticks (1 to 99); ");
        e.range("pass", DoneEdges::four, (y, ticks) -> y.pass(ticks), 1, 99, OUTSIDE);
        e.of(13, "STATE: no PLATE; ");
        e.due("no plate", new RingArm().pass(1), STATE);
        e.due("OUTSIDE is ahead of STATE", new RingArm().pass(0), OUTSIDE);
        e.due("OUTSIDE is ahead of STATE", new RingArm().pass(100), OUTSIDE);
        e.of(13, "FULL: as above.");
        RingArm y = atTick(99902);
        e.due("behind the last tick", y.pass(99), FULL);
        e.due("to the last tick", y.pass(98), 100000);
        e.due("behind it", y.pass(1), FULL);
        e.due("the tick stays", y.count(2), 100000);
        e.due("OUTSIDE is ahead of FULL", y.pass(100), OUTSIDE);
        e.due("OUTSIDE is ahead of FULL", y.pass(0), OUTSIDE);
    }

    private void choose() {
        e.of(14, "THE POLICY is another one: of which KIND it was. ");
        RingArm x = Check.plate(TEN + "o");
        int was = 4;
        for (int kind : new int[] {0, 1, 2, 3, 4, 4, 0}) {
            e.due("choose(" + kind + ")", x.choose(kind), was);
            e.due("as(0)", x.as(0), kind);
            was = kind;
        }
        e.of(14, "OUTSIDE: kind (0 to 4); ");
        e.range("choose", DoneEdges::four, (y, kind) -> y.choose(kind), 0, 4, OUTSIDE);
        e.of(14, "STATE: no PLATE.");
        e.due("no plate", new RingArm().choose(0), STATE);
        e.due("no plate", new RingArm().choose(4), STATE);
        e.due("OUTSIDE is ahead of STATE", new RingArm().choose(5), OUTSIDE);
        e.due("OUTSIDE is ahead of STATE", new RingArm().choose(-1), OUTSIDE);
    }

    private void skew() {
        e.of(15, "A RING has another OFFSET: which it had. ");
        RingArm x = four();
        int had = 3;
        for (int offset : new int[] {0, 23, 23, 12}) {
            e.due("skew(3, " + offset + ")", x.skew(3, offset), had);
            e.due("it has", x.ring(3, 1), offset);
            had = offset;
        }
        e.due("others stay", x.ring(2, 1), 2);
        x.ask(3, 3);
        x.skew(3, 23);
        // there at 9; place 3 begins at 23 + 18, by 24 leaves 17
        e.due("its places come by so", x.asked(0, 3), 23);
        e.of(15, "UNKNOWN; ");
        e.range("ring of four", DoneEdges::four, (y, ring) -> y.skew(ring, 0), 0, 3, UNKNOWN);
        e.range("ring of ten", () -> Check.plate(TEN + "f"), (y, ring) -> y.skew(ring, 0), 0, 9, UNKNOWN);
        e.due("no plate", new RingArm().skew(0, 0), UNKNOWN);
        e.due("UNKNOWN is ahead of OUTSIDE", x.skew(4, 24), UNKNOWN);
        e.due("UNKNOWN is ahead of OUTSIDE", new RingArm().skew(0, -1), UNKNOWN);
        e.of(15, "OUTSIDE: offset (0 to 23).");
        e.range("offset", DoneEdges::four, (y, offset) -> y.skew(3, offset), 0, 23, OUTSIDE);
    }

    private void gear() {
        e.of(16, "The arm goes otherwise: which STEP it had. ");
        RingArm x = four();
        e.due("gear(0, 1)", x.gear(0, 1), 2);
        e.due("the arm goes so", x.ring(3, 4), 3);
        e.due("gear(9, 9)", x.gear(9, 9), 1);
        e.due("the arm goes so", x.ring(3, 4), 36);
        e.due("START", x.count(6), 9);
        e.due("STEP", x.count(7), 9);
        e.due("gear(9, 9)", x.gear(9, 9), 9);
        e.of(16, "OUTSIDE: start (0 to 9), step (1 to 9); ");
        e.range("start", DoneEdges::four, (y, start) -> y.gear(start, 1), 0, 9, OUTSIDE);
        e.range("step", DoneEdges::four, (y, step) -> y.gear(0, step), 1, 9, OUTSIDE);
        e.due("nothing of it is taken", x.gear(0, 10), OUTSIDE);
        e.due("START stays", x.count(6), 9);
        e.due("nothing of it is taken", x.gear(10, 1), OUTSIDE);
        e.due("STEP stays", x.count(7), 9);
        e.of(16, "STATE: no PLATE.");
        e.due("no plate", new RingArm().gear(0, 1), STATE);
        e.due("none has come", new RingArm().count(7), 0);
        e.due("OUTSIDE is ahead of STATE", new RingArm().gear(10, 1), OUTSIDE);
        e.due("OUTSIDE is ahead of STATE", new RingArm().gear(0, 0), OUTSIDE);
    }
}
