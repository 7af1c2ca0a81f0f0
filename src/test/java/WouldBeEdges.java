/** Part 2 and promises 17 to 22: what would be. */
final class WouldBeEdges {
    private static final int NONE = Edges.NONE, UNKNOWN = Edges.UNKNOWN, OUTSIDE = Edges.OUTSIDE;
    private static final int STATE = Edges.STATE;
    private static final String FOUR = "ca8b6c4d;32;f", TEN = "2a".repeat(10) + ";01;";
    /** One ring of each sort: 2, 3, 4, 6, 8, 12 places. */
    private static final String SORTS = "2a3b4c6d8ecf;32;f";

    private final Edges e;

    WouldBeEdges(Edges edges) {
        e = edges;
    }

    void test() {
        runs();
        leastOrder();
        leastOfLikeOnes();
        laying();
        layingOfLikeOnes();
        behindAnother();
        howFarApart();
        run();
        least();
        leastSixteenTimes();
        weigh();
        weighRefused();
        lay();
        behind();
        apart();
    }

    private static RingArm four() {
        return Check.plate(FOUR);
    }

    private static RingArm ten() {
        return Check.plate(TEN + "f");
    }

    // ---- part 2

    /** It is 63, the arm is at ring 4 and goes outward; ring 6 is asked since 61, ring 3 since 63. */
    private static RingArm outward() {
        RingArm x = Check.plate(TEN + "s");
        x.ask(5, 0);
        x.serve();
        x.ask(4, 0);
        x.serve();
        x.pass(1);
        x.ask(6, 0);
        x.pass(2);
        x.ask(3, 1);
        return x;
    }

    private void runs() {
        e.of(0, "RUN by a KIND: if all that are ASKED now are DONE one behind the other by it (the arm as it is, going "
            + "as it goes): at which TICK the last one is, or how long all waited, together, each from the TICK at "
            + "which it was ASKED.");
        RingArm x = outward();
        e.due("tick", x.count(2), 63);
        e.due("outward", x.count(4), 0);
        // ring 6 first: there at 65, begins 72, done 84; ring 3: there at 87, begins 108, done 120
        int inTick = 120, inWaited = 84 - 61 + 120 - 63;
        // ring 3 first: there at 64, begins 84, done 96; ring 6: there at 99, begins 120, done 132
        int outTick = 132, outWaited = 96 - 63 + 132 - 61;
        int[] ticks = {inTick, outTick, outTick, inTick, inTick};
        int[] waited = {inWaited, outWaited, outWaited, inWaited, inWaited};
        long before = x.digest();
        for (int kind = 0; kind < 5; kind++) {
            e.due("run(" + kind + ", 0)", x.run(kind, 0), ticks[kind]);
            e.due("run(" + kind + ", 1)", x.run(kind, 1), waited[kind]);
        }
        e.due("changes nothing", x.digest(), before);
        for (int kind = 0; kind < 5; kind++) {
            runAsServed(kind);
        }
    }

    /** Seven are asked: a run tells what serving them does. */
    private void runAsServed(int kind) {
        RingArm x = outward();
        for (int ring : new int[] {9, 0, 4, 4, 2}) {
            x.ask(ring, ring % 2);
            x.pass(3);
        }
        x.choose(kind);
        int tick = x.run(kind, 0);
        int waited = x.run(kind, 1);
        int sum = 0;
        for (int n = 0; n < 7; n++) {
            int since = x.asked(x.next(), 2);
            sum += x.serve() - since;
        }
        e.due("seven by kind " + kind, tick, x.count(2));
        e.due("seven by kind " + kind + " waited", waited, sum);
    }

    private void leastOrder() {
        e.of(0, "LEAST: in which order all that are ASKED should be DONE, so that the last one is at the least TICK: "
            + "which TICK; which order; ");
        RingArm x = Check.plate("2x3x4x6x8xcx2a3a4a6a;51;r");
        x.ask(3, 0);
        x.ask(1, 1);
        x.ask(0, 1);
        x.ask(2, 0);
        for (int kind = 0; kind < 5; kind++) {
            e.isTrue("sooner than by kind " + kind, x.run(kind, 0) > 71);
        }
        e.due("which tick", x.least(0), 71);
        // ring 1: there at 6, begins 7, done 15; ring 2: there at 21, begins 23, done 29;
        // ring 3: there at 35, begins 47, done 51; ring 0: there at 59, begins just then, done 71
        int[] order = {1, 3, 0, 2};
        for (int n = 0; n < 4; n++) {
            e.due("which order, no. " + n, x.least(10 + n), order[n]);
        }
        // the numbers of those behind one that is done are one less
        e.due("ring 1", x.read(1), 15);
        e.due("ring 2", x.read(2), 29);
        e.due("ring 3", x.read(0), 51);
        e.due("ring 0", x.read(0), 71);
    }

    private void leastOfLikeOnes() {
        e.of(0, "of like ones the first by numbers.");
        RingArm x = ten();
        for (int n = 0; n < 7; n++) {
            x.ask(3, 0);
        }
        for (int n = 0; n < 7; n++) {
            e.due("seven of the same", x.least(10 + n), n);
        }
        // each waits till 12, done 24, then the other one till 36, done 48, whichever is first
        RingArm y = ten();
        y.ask(9, 1);
        y.ask(1, 1);
        e.due("both orders are like", y.least(0), 48);
        e.due("by numbers", y.least(10), 0);
        e.due("by numbers", y.least(11), 1);
        RingArm z = ten();
        z.ask(9, 0);
        z.ask(1, 1);
        z.ask(2, 1);
        // 0 last: 24, 48, then there at 55, begins 72, done 84; 0 first: there at 9, 36, there at 44, 72, 96
        e.due("the last one", z.least(12), 0);
        e.due("the like ones ahead by numbers", z.least(10), 1);
        e.due("the like ones ahead by numbers", z.least(11), 2);
    }

    private static RingArm weighed(int... weights) {
        RingArm x = ten();
        for (int thing = 0; thing < weights.length; thing++) {
            x.weigh(thing, weights[thing]);
        }
        return x;
    }

    private void layingIs(int much, int[] rings, int... weights) {
        RingArm x = weighed(weights);
        e.due("how much", x.lay(0), much);
        for (int thing = 0; thing < 6; thing++) {
            e.due("thing " + thing, x.lay(10 + thing), thing < rings.length ? rings[thing] : NONE);
        }
    }

    private void laying() {
        e.of(0, "LAY: up to six THINGS by WEIGHTS (0 to 9), on RINGS 0, 1, and on, each on one, so that the sum over "
            + "all twos of them of both WEIGHTS, times each other, and by how many RINGS they are apart, is least: how "
            + "much; on which RING each is; ");
        layingIs(0, new int[0]);
        layingIs(0, new int[] {0}, 9);
        layingIs(81, new int[] {0, 1}, 9, 9);
        layingIs(5 * 7 + 7 + 5 * 2, new int[] {0, 2, 1}, 5, 1, 7);
        // pairs that are 1, 2, .. apart: 5, 4, 3, 2, 1 of them
        layingIs(81 * 35, new int[] {0, 1, 2, 3, 4, 5}, 9, 9, 9, 9, 9, 9);
        layingIs(9 * (1 + 2 + 1 + 2 + 3) + 26, new int[] {2, 0, 1, 3, 4, 5}, 9, 1, 1, 1, 1, 1);
    }

    private void layingOfLikeOnes() {
        e.of(0, "of like ones the first by numbers (THING 0 first).");
        layingIs(0, new int[] {0, 1, 2, 3, 4, 5}, 0, 0, 0, 0, 0, 9);
        layingIs(1, new int[] {0, 2, 3, 4, 5, 1}, 1, 0, 0, 0, 0, 1);
        layingIs(9, new int[] {0, 1, 2}, 0, 3, 3);
        layingIs(9, new int[] {0, 2, 1}, 3, 0, 3);
        layingIs(4, new int[] {0, 1, 2}, 1, 1, 1);
    }

    private void behindAnother() {
        e.of(0, "BEHIND for a RING and another one: how many TICKS it takes from when PLACE 0 of the one begins to come "
            + "by (the arm is there) till all its PLACES, and then all of the other one, from its PLACE 0 on, are DONE; "
            + "which OFFSET of the other one makes that least: the least.");
        for (int offset : new int[] {0, 12, 23}) {
            RingArm x = four();
            x.skew(0, offset);
            // a whole turn, then 5 ticks to ring 1
            int best = (offset + 5) % 24;
            for (int other = 0; other < 24; other++) {
                x.skew(1, other);
                int wait = other >= best ? other - best : other + 24 - best;
                e.due("offsets " + offset + " and " + other, x.behind(0, 1, 0), 24 + 5 + wait + 24);
                e.due("best behind " + offset, x.behind(0, 1, 1), best);
                e.due("ticks by that", x.behind(0, 1, 2), 53);
            }
        }
        RingArm y = four();
        int ticks = y.behind(2, 0, 0);
        y.ask(3, 1);
        y.read(0);
        y.pass(7);
        e.due("wherever the arm is, and whichever tick", y.behind(2, 0, 0), ticks);
        RingArm z = Check.plate("2a2a2a2a;99;f");
        e.due("36 ticks around", z.behind(0, 3, 1), 12);
        e.due("36 ticks around", z.behind(3, 0, 2), 24 + 36 + 24);
    }

    private void howFarApart() {
        e.of(0, "APART for a RING and so many TICKS (0 to 23) to think: its PLACES are numbered anew, each so many "
            + "PLACES (G) farther than the one ahead (around the RING; G has no divisor in common with how many there "
            + "are, 1 to one less than these), so that all can be DONE in order, with these TICKS behind each, soonest "
            + "from when the first one begins to come by till the last one is DONE: which G: the least; how many TICKS.");
        // by ring: till how many ticks to think which G, and how far each is then behind the one ahead
        int[][] sorts = {
            {0, 1, 12, 23, 1, 36},
            {0, 1, 8, 8, 2, 16, 23, 1, 32},
            {0, 1, 6, 12, 3, 18, 23, 1, 30},
            {0, 1, 4, 16, 5, 20, 23, 1, 28},
            {0, 1, 3, 6, 3, 9, 12, 5, 15, 18, 7, 21, 23, 1, 27},
            {0, 1, 2, 8, 5, 10, 12, 7, 14, 20, 11, 22, 23, 1, 26},
        };
        RingArm x = Check.plate(SORTS);
        for (int ring = 0; ring < 6; ring++) {
            int places = x.ring(ring, 0);
            int row = 0;
            for (int think = 0; think <= 23; think++) {
                row += think > sorts[ring][row] ? 3 : 0;
                String call = places + " places, " + think + " ticks";
                e.due(call + ": G", x.apart(ring, think, 0), sorts[ring][row + 1]);
                e.due(call, x.apart(ring, think, 1), (places - 1) * sorts[ring][row + 2] + 24 / places);
            }
        }
    }

    // ---- promises 17 to 22

    private void run() {
        e.of(17, "RUN: what = 0 the TICK (now, if nothing is ASKED), 1 how long all waited. ");
        RingArm x = four();
        for (int tick = 0; tick <= 99; tick += 99) {
            for (int kind = 0; kind < 5; kind++) {
                e.due("now", x.run(kind, 0), tick);
                e.due("nothing waited", x.run(kind, 1), 0);
            }
            x.pass(99);
        }
        RingArm y = four();
        y.ask(0, 0);
        e.due("one", y.run(0, 0), 2);
        e.due("one waited", y.run(0, 1), 2);
        e.of(17, "OUTSIDE: kind (0 to 4), what; ");
        e.range("kind of run", WouldBeEdges::four, (z, kind) -> z.run(kind, 0), 0, 4, OUTSIDE);
        e.range("what of run", WouldBeEdges::four, (z, what) -> z.run(4, what), 0, 1, OUTSIDE);
        e.of(17, "STATE: no PLATE.");
        e.due("no plate", new RingArm().run(0, 0), STATE);
        e.due("no plate", new RingArm().run(4, 1), STATE);
        e.due("OUTSIDE is ahead of STATE", new RingArm().run(5, 0), OUTSIDE);
        e.due("OUTSIDE is ahead of STATE", new RingArm().run(0, 2), OUTSIDE);
    }

    private void least() {
        e.of(18, "LEAST: what = 0 the TICK (now, if nothing is ASKED), ");
        RingArm x = four();
        e.due("now", x.least(0), 0);
        x.pass(99);
        e.due("now", x.least(0), 99);
        x.ask(0, 1);
        e.due("one", x.least(0), 124);
        e.of(18, "10 to 16 the so-manieth (NONE: there are not so many). ");
        for (int many = 0; many <= 7; many++) {
            RingArm y = ten();
            for (int n = 0; n < many; n++) {
                y.ask(0, 0);
            }
            for (int n = 0; n < 7; n++) {
                e.due("no. " + n + " of " + many, y.least(10 + n), n < many ? n : NONE);
            }
        }
        e.of(18, "OUTSIDE; ");
        e.range("what of least", WouldBeEdges::four, (z, what) -> z.least(what), 10, 16, OUTSIDE);
        for (int what : new int[] {-1, 1, 2, 7, 8}) {
            e.due("least(" + what + ")", four().least(what), OUTSIDE);
        }
    }

    private void leastSixteenTimes() {
        e.of(18, "STATE: no PLATE, or least() was done 16 times.");
        e.due("no plate", new RingArm().least(0), STATE);
        e.due("OUTSIDE is ahead of STATE", new RingArm().least(9), OUTSIDE);
        RingArm x = four();
        for (int time = 1; time <= 16; time++) {
            e.due("a refused one is not done", x.least(9), OUTSIDE);
            e.due("time " + time, x.least(0), 0);
            e.due("so often", x.count(12), time);
        }
        e.due("time 17", x.least(0), STATE);
        e.due("time 17, whatever is asked for", x.least(16), STATE);
        e.due("OUTSIDE is ahead of STATE", x.least(17), OUTSIDE);
        e.due("sixteen", x.count(12), 16);
        x.image();
        x.restore();
        e.due("restored", x.least(0), STATE);
        Check.write(x, FOUR);
        x.plate();
        e.due("another plate", x.least(0), STATE);
        RingArm y = new RingArm();
        y.least(0);
        e.due("one without a plate is not done", y.count(12), 0);
    }

    private void weigh() {
        e.of(19, "A THING has a WEIGHT (0 at first; there are as many THINGS as the greatest number of one whose WEIGHT "
            + "is above 0, and 1): which it had. ");
        RingArm x = ten();
        e.due("no things", x.count(8), 0);
        for (int thing = 0; thing < 6; thing++) {
            e.due("0 at first", x.weigh(thing, 0), 0);
            e.due("a weight of 0 makes none", x.count(8), thing);
            e.due("which it had", x.weigh(thing, 1), 0);
            e.due("things", x.count(8), thing + 1);
            e.due("which it had", x.weigh(thing, 9), 1);
            e.due("things", x.count(8), thing + 1);
        }
        e.due("one between", x.weigh(2, 0), 9);
        e.due("things", x.count(8), 6);
        e.due("the last one", x.weigh(5, 0), 9);
        e.due("things", x.count(8), 5);
        x.weigh(3, 0);
        x.weigh(4, 0);
        e.due("down to the greatest above 0", x.count(8), 2);
        x.weigh(1, 0);
        x.weigh(0, 0);
        e.due("none", x.count(8), 0);
        x.weigh(5, 1);
        e.due("the last one alone", x.count(8), 6);
    }

    private void weighRefused() {
        e.of(19, "UNKNOWN: thing (0 to 5, a RING of that number; also without a PLATE); ");
        int[] greatest = {3, 4, 5, 5, 5, 5, 5};
        for (int rings = 4; rings <= 10; rings++) {
            String text = "2a".repeat(rings) + ";01;f";
            e.range("thing, of " + rings + " rings", () -> Check.plate(text), (x, thing) -> x.weigh(thing, 9), 0,
                greatest[rings - 4], UNKNOWN);
        }
        for (int thing = 0; thing < 6; thing++) {
            e.due("no plate", new RingArm().weigh(thing, 1), UNKNOWN);
        }
        e.due("UNKNOWN is ahead of OUTSIDE", ten().weigh(6, 10), UNKNOWN);
        e.due("UNKNOWN is ahead of OUTSIDE", four().weigh(4, 10), UNKNOWN);
        e.due("UNKNOWN is ahead of OUTSIDE", new RingArm().weigh(0, -1), UNKNOWN);
        e.of(19, "OUTSIDE: weight (0 to 9).");
        e.range("weight", WouldBeEdges::four, (x, weight) -> x.weigh(3, weight), 0, 9, OUTSIDE);
    }

    private void lay() {
        e.of(20, "LAY: what = 0 how much, 10 to 15 on which RING THING 0 to 5 is (NONE: there is none such). ");
        for (int many = 0; many <= 6; many++) {
            RingArm x = ten();
            if (many > 0) {
                x.weigh(many - 1, 1);
            }
            e.due("how much", x.lay(0), 0);
            for (int thing = 0; thing < 6; thing++) {
                e.due("thing " + thing + " of " + many, x.lay(10 + thing), thing < many ? thing : NONE);
            }
        }
        e.of(20, "OUTSIDE; ");
        e.range("what of lay", WouldBeEdges::four, (x, what) -> x.lay(what), 10, 15, OUTSIDE);
        for (int what : new int[] {-1, 1, 5, 8}) {
            e.due("lay(" + what + ")", four().lay(what), OUTSIDE);
        }
        e.of(20, "STATE: no PLATE.");
        e.due("no plate", new RingArm().lay(0), STATE);
        e.due("no plate", new RingArm().lay(15), STATE);
        e.due("OUTSIDE is ahead of STATE", new RingArm().lay(16), OUTSIDE);
    }

    private void behind() {
        e.of(21, "BEHIND: what = 0 how many TICKS, 1 which OFFSET is best, 2 how many TICKS by that. ");
        RingArm x = four();
        e.due("ticks", x.behind(0, 1, 0), 24 + 5 + 20 + 24);
        e.due("best", x.behind(0, 1, 1), 5);
        e.due("by that", x.behind(0, 1, 2), 53);
        // ring 3 begins at 3; there at 3 + 24 + 9, by 24 leaves 12
        e.due("from the last ring", x.behind(3, 0, 0), 24 + 9 + 12 + 24);
        e.due("from the last ring: best", x.behind(3, 0, 1), 12);
        long before = x.digest();
        x.behind(2, 3, 1);
        e.due("changes nothing", x.digest(), before);
        e.of(21, "UNKNOWN: ring, other, or they are the same; ");
        e.range("ring", WouldBeEdges::four, (y, ring) -> y.behind(ring, 1, 0), 0, 3, UNKNOWN);
        e.range("other", WouldBeEdges::four, (y, other) -> y.behind(1, other, 0), 0, 3, UNKNOWN);
        e.range("ring of ten", WouldBeEdges::ten, (y, ring) -> y.behind(ring, 5, 2), 0, 9, UNKNOWN);
        e.range("other of ten", WouldBeEdges::ten, (y, other) -> y.behind(5, other, 2), 0, 9, UNKNOWN);
        for (int ring = 0; ring < 4; ring++) {
            e.due("the same", x.behind(ring, ring, 0), UNKNOWN);
            e.due("UNKNOWN is ahead of OUTSIDE", x.behind(ring, ring, 3), UNKNOWN);
        }
        e.due("no plate", new RingArm().behind(0, 1, 0), UNKNOWN);
        e.due("UNKNOWN is ahead of OUTSIDE", x.behind(4, 0, 3), UNKNOWN);
        e.due("UNKNOWN is ahead of OUTSIDE", x.behind(0, 4, -1), UNKNOWN);
        e.of(21, "OUTSIDE.");
        e.range("what of behind", WouldBeEdges::four, (y, what) -> y.behind(0, 1, what), 0, 2, OUTSIDE);
    }

    private void apart() {
        e.of(22, "APART: what = 0 which G, 1 how many TICKS. ");
        RingArm x = Check.plate(SORTS);
        e.due("12 places, 8 ticks: G", x.apart(5, 8, 0), 5);
        e.due("12 places, 8 ticks", x.apart(5, 8, 1), 112);
        e.due("12 places, 9 ticks: G", x.apart(5, 9, 0), 7);
        e.due("2 places, 23 ticks: G", x.apart(0, 23, 0), 1);
        e.due("2 places, 23 ticks", x.apart(0, 23, 1), 48);
        e.of(22, "UNKNOWN: ring; ");
        e.range("ring of four", WouldBeEdges::four, (y, ring) -> y.apart(ring, 0, 0), 0, 3, UNKNOWN);
        e.range("ring of ten", WouldBeEdges::ten, (y, ring) -> y.apart(ring, 0, 0), 0, 9, UNKNOWN);
        e.due("no plate", new RingArm().apart(0, 0, 0), UNKNOWN);
        e.due("UNKNOWN is ahead of OUTSIDE think", x.apart(6, 24, 0), UNKNOWN);
        e.due("UNKNOWN is ahead of OUTSIDE what", x.apart(-1, 0, 2), UNKNOWN);
        e.of(22, "OUTSIDE: think (0 to 23), what.");
        e.range("think", WouldBeEdges::four, (y, think) -> y.apart(0, think, 0), 0, 23, OUTSIDE);
        e.range("what of apart", WouldBeEdges::four, (y, what) -> y.apart(0, 0, what), 0, 1, OUTSIDE);
    }
}
