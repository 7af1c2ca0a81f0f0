import java.util.function.Supplier;

/** Promises 1 to 9: the plate. */
final class PlateEdges {
    private static final int NONE = Edges.NONE, UNKNOWN = Edges.UNKNOWN, OUTSIDE = Edges.OUTSIDE;
    private static final int STATE = Edges.STATE, FULL = Edges.FULL;
    private static final String FOUR = "ca8b6c4d;32;f", TEN = "2a3b4c6d8ecf2x3w4v6u;95;s";

    private final Edges e;

    PlateEdges(Edges edges) {
        e = edges;
    }

    void test() {
        newObject();
        letter();
        blank();
        fault();
        plate();
        plateEndsAllThatWas();
        plateIsNone();
        ring();
        asked();
        as();
        next();
    }

    private static RingArm written(String text) {
        RingArm x = new RingArm();
        Check.write(x, text);
        return x;
    }

    private void newObject() {
        e.of(1, "No PLATE.");
        RingArm x = new RingArm();
        for (int what = 0; what <= 12; what++) {
            e.due("count(" + what + ")", x.count(what), 0);
        }
        e.due("fault()", x.fault(), 0);
        e.due("plate()", x.plate(), STATE);
        e.due("ring(0, 0)", x.ring(0, 0), UNKNOWN);
        e.due("asked(0, 0)", x.asked(0, 0), UNKNOWN);
        e.due("restore()", x.restore(), STATE);
        e.due("blank()", x.blank(), 0);
        e.due("forget()", x.forget(), 0);
        RingArm y = Check.plate(FOUR);
        y.ask(0, 0);
        e.due("no object has to do with another", new RingArm().count(0), 0);
    }

    private void letter() {
        e.of(2, "A letter comes behind THE PAGE, by its code: how many THE PAGE has. ");
        RingArm x = new RingArm();
        long h = 1291;
        for (int i = 1; i <= 28; i++) {
            e.due("letter no. " + i, x.letter(100 - i), i);
            h = 31 * h + 100 - i;
        }
        for (int what = 0; what <= 12; what++) {
            h = 31 * h + (what == 10 ? 28 : 0);
        }
        e.due("digest() tells them in order", x.digest(), h);
        e.of(2, "OUTSIDE: code (1 to 126); ");
        e.range("letter", RingArm::new, (y, code) -> y.letter(code), 1, 126, OUTSIDE);
        e.of(2, "FULL: above 28.");
        RingArm z = written("z".repeat(27));
        e.due("letter no. 28", z.letter(1), 28);
        e.due("letter no. 29", z.letter(126), FULL);
        e.due("letter no. 29 again", z.letter(1), FULL);
        e.due("OUTSIDE is ahead of FULL", z.letter(127), OUTSIDE);
        e.due("OUTSIDE is ahead of FULL", z.letter(0), OUTSIDE);
        e.due("28 letters", z.count(10), 28);
    }

    private void blank() {
        e.of(3, "THE PAGE is empty: how many letters it had.");
        for (int letters : new int[] {0, 1, 27, 28}) {
            RingArm x = written("z".repeat(letters));
            e.due("blank()", x.blank(), letters);
            e.due("letters", x.count(10), 0);
            e.due("blank() of nothing", x.blank(), 0);
            e.due("digest()", x.digest(), new RingArm().digest());
            e.due("room again", x.letter('2'), 1);
            e.due("the letters before are gone", x.fault(), 1);
        }
        RingArm y = Check.plate(FOUR);
        y.ask(1, 1);
        long before = y.digest();
        y.letter('2');
        e.due("blank()", y.blank(), 1);
        e.due("all else stays", y.digest(), before);
    }

    private void fault() {
        e.of(4, "The place (from 0) of the first letter of THE PAGE that no PLATE has there, behind those ahead of it; ");
        faultIs("z", 0);
        faultIs("zz", 0);
        faultIs("2zz", 1);
        faultIs("2a2a2a;", 6);
        faultIs("2a2a2a2a;00;z", 10);
        faultIs(TEN + "s", 25);
        faultIs(TEN + "zzz", 25);
        faultIs("z".repeat(28), 0);
        faultIs("2a".repeat(14), 20);
        e.of(4, "how many letters it has, if there is none.");
        for (int letters = 0; letters <= TEN.length(); letters++) {
            faultIs(TEN.substring(0, letters), letters);
        }
        for (int letters = 0; letters <= FOUR.length(); letters++) {
            faultIs(FOUR.substring(0, letters), letters);
        }
    }

    private void faultIs(String text, int place) {
        RingArm x = written(text);
        e.due("fault() of '" + text + "'", x.fault(), place);
        e.due("fault() of '" + text + "' changes nothing", x.blank(), text.length());
    }

    private void plate() {
        e.of(5, "how many RINGS; THE PAGE is empty then. ");
        for (int rings = 4; rings <= 10; rings++) {
            RingArm x = written("2a".repeat(rings) + ";01;f");
            e.due("plate()", x.plate(), rings);
            e.due("rings", x.count(0), rings);
            e.due("letters", x.count(10), 0);
            e.due("blank()", x.blank(), 0);
            e.due("plate() of an empty page", x.plate(), STATE);
            e.due("the plate is there yet", x.count(0), rings);
        }
    }

    private static RingArm muchDone() {
        RingArm x = Check.plate(TEN);
        x.ask(9, 5);
        x.serve();
        x.ask(3, 1);
        x.serve();
        x.ask(5, 11);
        x.weigh(0, 3);
        x.weigh(5, 9);
        x.see(2, 9);
        x.skew(0, 9);
        x.gear(1, 1);
        x.image();
        return x;
    }

    private void plateEndsAllThatWas() {
        e.of(5, "THE PAGE is read as THE PLATE (another one is gone, with all that was): ");
        for (String text : new String[] {FOUR, TEN}) {
            RingArm x = muchDone();
            e.due("outward", x.count(4), 0);
            Check.write(x, text);
            x.plate();
            RingArm y = Check.plate(TEN);
            Check.write(y, text);
            y.plate();
            e.due("all is as on a new plate", x.digest(), y.digest());
            for (int what = 0; what <= 10; what++) {
                e.due("count(" + what + ")", x.count(what), Check.plate(text).count(what));
            }
            for (int thing = 0; thing < x.count(0) && thing < 6; thing++) {
                e.due("weight of " + thing, x.weigh(thing, 0), 0);
            }
            e.due("no image", x.restore(), STATE);
            e.due("plates", x.count(11), 2);
        }
    }

    private void plateIsNone() {
        e.of(5, "STATE: it is none.");
        for (String text : new String[] {FOUR, TEN}) {
            for (int letters = 0; letters < text.length(); letters++) {
                plateIsNone(text.substring(0, letters));
            }
            plateIsNone(text + "f");
            plateIsNone(text + ";");
            plateIsNone(" " + text);
        }
        plateIsNone("2a2a2a;01;f");
        plateIsNone("2a".repeat(11) + ";01;f");
        plateIsNone("2a".repeat(14));
    }

    private void plateIsNone(String text) {
        RingArm x = muchDone();
        Check.write(x, text);
        long before = x.digest();
        e.due("plate() of '" + text + "'", x.plate(), STATE);
        e.due("all stays", x.digest(), before);
        e.isTrue("the image stays", x.restore() >= 0);
    }

    private void ring() {
        e.of(6, "Of a RING: what = 0 how many PLACES, 1 OFFSET, 2 how long a PLACE lasts, ");
        RingArm x = Check.plate(TEN);
        e.due("places of ring 0", x.ring(0, 0), 2);
        e.due("places of ring 9", x.ring(9, 0), 6);
        e.due("offset of ring 0", x.ring(0, 1), 0);
        e.due("offset of ring 6", x.ring(6, 1), 23);
        e.due("ring 0 lasts", x.ring(0, 2), 12);
        e.due("ring 5 lasts", x.ring(5, 2), 2);
        e.of(6, "3 which of those that are ASKED are on it, as bits, ");
        RingArm y = Check.plate(FOUR);
        for (int n = 0; n < 7; n++) {
            e.due("bits of " + n, y.ring(2, 3), (1 << n) - 1);
            y.ask(2, 0);
        }
        e.due("all seven", y.ring(2, 3), 127);
        e.due("none", y.ring(1, 3), 0);
        e.due("none on ring 0", y.ring(0, 3), 0);
        e.due("nothing is asked", Check.plate(FOUR).ring(0, 3), 0);
        y.read(6);
        y.ask(3, 0);
        e.due("the last one alone", y.ring(3, 3), 64);
        y.read(0);
        e.due("one less by number", y.ring(3, 3), 32);
        e.of(6, "4 how many TICKS the arm would take there. ");
        RingArm z = Check.plate(TEN);
        e.due("to its own", z.ring(0, 4), 0);
        e.due("to the next", z.ring(1, 4), 14);
        e.due("to the last", z.ring(9, 4), 9 + 9 * 5);
        e.of(6, "UNKNOWN; OUTSIDE.");
        e.range("ring of four", () -> Check.plate(FOUR), (a, ring) -> a.ring(ring, 0), 0, 3, UNKNOWN);
        e.range("ring of ten", () -> Check.plate(TEN), (a, ring) -> a.ring(ring, 4), 0, 9, UNKNOWN);
        e.range("what of ring", () -> Check.plate(FOUR), (a, what) -> a.ring(3, what), 0, 4, OUTSIDE);
        e.due("UNKNOWN is ahead of OUTSIDE", z.ring(10, 5), UNKNOWN);
        e.due("no plate", new RingArm().ring(0, 5), UNKNOWN);
    }

    private static RingArm sevenAsked() {
        RingArm x = Check.plate(FOUR);
        for (int n = 0; n < 7; n++) {
            x.ask(n % 4, n / 2);
            x.pass(1);
        }
        return x;
    }

    private void asked() {
        e.of(7, "Of what is ASKED: what = 0 the RING, 1 the PLACE, 2 at which TICK it was ASKED, ");
        RingArm x = sevenAsked();
        for (int n = 0; n < 7; n++) {
            e.due("ring of " + n, x.asked(n, 0), n % 4);
            e.due("place of " + n, x.asked(n, 1), n / 2);
            e.due("since of " + n, x.asked(n, 2), n);
        }
        e.of(7, "3 at which TICK it would be DONE, if it was NEXT. ");
        // it is 7; place 0 of ring 0 begins at 24; to ring 1 till 12: place 0 begins at 1, 25
        e.due("number 0", x.asked(0, 3), 26);
        e.due("number 1, whichever is next", x.asked(1, 3), 28);
        // to ring 2 till 14: place 3 begins at 14
        e.due("number 6, just then", x.asked(6, 3), 18);
        e.of(7, "UNKNOWN; OUTSIDE.");
        e.range("asked of seven", PlateEdges::sevenAsked, (a, n) -> a.asked(n, 0), 0, 6, UNKNOWN);
        e.range("what of asked", PlateEdges::sevenAsked, (a, what) -> a.asked(0, what), 0, 3, OUTSIDE);
        e.due("UNKNOWN is ahead of OUTSIDE", x.asked(7, 4), UNKNOWN);
        e.due("nothing is asked", Check.plate(FOUR).asked(0, 0), UNKNOWN);
        e.due("nothing is asked", Check.plate(FOUR).asked(0, 4), UNKNOWN);
        e.due("no plate", new RingArm().asked(0, 4), UNKNOWN);
    }

    private void as() {
        e.of(8, "THE POLICY taken as a KIND: its KIND; NONE: it is none such (the cast fails). ");
        RingArm x = Check.plate(FOUR);
        e.due("a FIRST as a FIRST", x.as(0), 0);
        e.due("a FIRST as a SOONEST", x.as(4), NONE);
        x.choose(1);
        e.due("a NEAREST as a SOONEST", x.as(4), NONE);
        e.due("a NEAREST as a SWEEP", x.as(2), NONE);
        x.choose(2);
        e.due("a SWEEP as a ROUND", x.as(3), NONE);
        x.choose(3);
        e.due("a ROUND as a SWEEP", x.as(2), 3);
        x.choose(4);
        e.due("a SOONEST as a NEAREST", x.as(1), 4);
        e.due("a SOONEST as a SOONEST", x.as(4), 4);
        e.of(8, "OUTSIDE; STATE: no PLATE.");
        e.range("as", () -> Check.plate(FOUR), (a, kind) -> a.as(kind), 0, 4, OUTSIDE);
        e.due("no plate", new RingArm().as(0), STATE);
        e.due("no plate", new RingArm().as(4), STATE);
        e.due("OUTSIDE is ahead of STATE", new RingArm().as(5), OUTSIDE);
        e.due("OUTSIDE is ahead of STATE", new RingArm().as(-1), OUTSIDE);
    }

    private void next() {
        e.of(9, "Which is NEXT by THE POLICY; NONE: nothing is ASKED. ");
        Supplier<RingArm> empty = () -> Check.plate(FOUR);
        for (int kind = 0; kind < 5; kind++) {
            RingArm x = empty.get();
            x.choose(kind);
            e.due("nothing is asked", x.next(), NONE);
            x.ask(3, 0);
            e.due("one", x.next(), 0);
            x.ask(0, 0);
            e.due("two", x.next(), kind == 0 ? 0 : 1);
            e.due("changes nothing", x.count(5), 2);
            x.read(0);
            x.read(0);
            e.due("nothing is asked any more", x.next(), NONE);
        }
        e.of(9, "STATE: no PLATE.");
        e.due("no plate", new RingArm().next(), STATE);
        e.due("none yet", written(FOUR).next(), STATE);
    }
}
