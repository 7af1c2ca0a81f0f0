import java.math.BigInteger;

/** Part 3 and promises 23 to 27: what is seen. */
final class SeenEdges {
    private static final int NONE = Edges.NONE, OUTSIDE = Edges.OUTSIDE, STATE = Edges.STATE, FULL = Edges.FULL;
    private static final int HIGH = Edges.HIGH, LOW = Edges.LOW;
    /** START is 3. */
    private static final String FOUR = "ca8b6c4d;32;f", TEN = "2a3b4c6d8ecf2x3w4v6u;32;";
    private static final int ALL = 511;

    private final Edges e;

    SeenEdges(Edges edges) {
        e = edges;
    }

    void test() {
        seen();
        stepsItCanBe();
        whichToTry();
        draws();
        dayByDay();
        daysByEachKind();
        see();
        forget();
        steps();
        trial();
        days();
        daysRefused();
    }

    private static RingArm four() {
        return Check.plate(FOUR);
    }

    // ---- part 3

    private void seen() {
        e.of(0, "SEEN (6 at most): that the arm took so many TICKS (0 to 99) for so many RINGS (1 to 9), START as it "
            + "is, STEP not known. ");
        RingArm x = four();
        for (int n = 1; n <= 6; n++) {
            e.due("no. " + n, x.see(1, 8), n);
        }
        e.due("no. 7", x.see(1, 8), FULL);
        e.due("START 3", x.steps(), 1 << 3 | 1 << 4 | 1 << 5);
        x.gear(4, 9);
        e.due("START 4, whatever STEP", x.steps(), 1 << 2 | 1 << 3 | 1 << 4);
        x.gear(0, 1);
        e.due("START 0", x.steps(), 1 << 6 | 1 << 7 | 1 << 8);
        x.gear(9, 1);
        e.due("START 9", x.steps(), 0);
        RingArm y = four();
        e.due("more rings than there are", y.see(9, 3 + 9 * 9), 1);
        e.due("more rings than there are", y.steps(), 1 << 8);
        y.see(9, 99);
        e.due("99 ticks are more than any takes", y.steps(), 0);
        RingArm z = Check.plate("2a2a2a2a;01;f");
        z.see(1, 0);
        e.due("0 ticks for a step of 1, told too few by one", z.steps(), 1);
    }

    private void stepsSeen(int rings, int ticks, int bits) {
        RingArm x = four();
        x.see(rings, ticks);
        e.due("steps() by " + ticks + " ticks for " + rings + " rings", x.steps(), bits);
    }

    private void stepsItCanBe() {
        e.of(0, "STEPS (1 to 9) it can be, so that all that is SEEN is so, but each may be told by one TICK too many or "
            + "too few: as bits (1 for 1, 2 for 2, 4 for 3, and so on). ");
        e.due("nothing is seen", four().steps(), ALL);
        for (int step = 1; step <= 9; step++) {
            int ticks = 3 + 9 * step;
            int bit = 1 << step - 1;
            stepsSeen(9, ticks, bit);
            stepsSeen(9, ticks - 1, bit);
            stepsSeen(9, ticks + 1, bit);
            stepsSeen(9, ticks - 2, 0);
            stepsSeen(9, ticks + 2, 0);
        }
        stepsSeen(1, 2, 0);
        stepsSeen(1, 3, 1);
        stepsSeen(1, 4, 1 | 2);
        stepsSeen(1, 5, 1 | 2 | 4);
        stepsSeen(1, 11, 64 | 128 | 256);
        stepsSeen(1, 12, 128 | 256);
        stepsSeen(1, 13, 256);
        stepsSeen(1, 14, 0);
        stepsSeen(2, 12, 8 | 16);
        RingArm x = four();
        int[] ticks = {8, 9, 10, 8, 9, 12};
        int[] left = {8 | 16 | 32, 16 | 32, 32, 32, 32, 0};
        for (int n = 0; n < 6; n++) {
            x.see(1, ticks[n]);
            e.due("all of " + (n + 1) + " must be so", x.steps(), left[n]);
        }
    }

    private void whichToTry() {
        e.of(0, "TRY: over how many RINGS (1 to 9) to see it go next, so that at worst fewest of these fit yet, if one "
            + "of them is right and what it takes is told rightly: of like ones the least; none, if there are none.");
        RingArm x = four();
        e.due("all nine: over two rings they are told apart", x.trial(), 2);
        x.see(1, 8);
        e.due("three", x.trial(), 2);
        x.see(1, 9);
        e.due("two", x.trial(), 2);
        x.see(1, 10);
        e.due("one is left", x.steps(), 32);
        e.due("one: of like ones the least", x.trial(), 1);
        x.see(1, 13);
        e.due("none is left", x.steps(), 0);
        e.due("none", x.trial(), NONE);
        x.forget();
        e.due("all nine again", x.trial(), 2);
        triedBy(1, 3, 1, 1);
        triedBy(1, 4, 1 | 2, 2);
        triedBy(1, 5, 1 | 2 | 4, 2);
        triedBy(1, 11, 64 | 128 | 256, 2);
        triedBy(1, 12, 128 | 256, 2);
        triedBy(1, 13, 256, 1);
    }

    private void triedBy(int rings, int ticks, int bits, int which) {
        RingArm x = four();
        x.see(rings, ticks);
        e.due("these are left", x.steps(), bits);
        e.due("trial(), if " + bits + " are left", x.trial(), which);
    }

    /** The seed behind so many draws. */
    private static int seedAfter(int seed, int draws) {
        BigInteger now = BigInteger.valueOf(seed);
        for (int i = 0; i < draws; i++) {
            now = now.multiply(BigInteger.valueOf(1103515245)).add(BigInteger.valueOf(12345))
                .mod(BigInteger.TWO.pow(31));
        }
        return now.intValueExact();
    }

    private static int draw(int seed, int no, int of) {
        return seedAfter(seed, no) / 65536 % of;
    }

    private void draws() {
        e.of(0, "DRAWS: the next SEED each time: 1103515245 times it and 12345, its rest by 2 to the 31; then that by "
            + "65536 (rounded down), its rest.");
        e.due("two draws from 0", four().days(1, 0, 2), 1406932606);
        for (int seed : new int[] {0, 1, 65535, 65536, 1 << 30, HIGH - 1, HIGH}) {
            for (int times : new int[] {1, 2, 59, 60}) {
                e.due("two draws a time from " + seed, four().days(times, seed, 2), seedAfter(seed, 2 * times));
            }
        }
        // one place is done: which one it is shows by when
        for (int seed = 0; seed < 40; seed++) {
            RingArm x = Check.plate(TEN + "f");
            int days = x.days(1, seed, 0);
            int ring = draw(seed, 1, 10);
            int place = draw(seed, 2, x.ring(ring, 0));
            e.due("ring " + ring + ", place " + place + " by " + seed, x.ask(ring, place), 1);
            e.due("which is done at", days, x.read(0));
        }
    }

    private void dayByDay() {
        e.of(0, "DAYS by a SEED, as they would be: so many times a RING by a DRAW of how many there are, a PLACE on it by "
            + "a DRAW of its PLACES is ASKED; if three or more are, the NEXT one is DONE; then all others are DONE one "
            + "behind the other: at which TICK the last one is; how long all that were ASKED by it waited, together "
            + "(what is ASKED now is not, in them). ");
        // by FIRST the order is the same whenever they are done; since when each is asked shows by how long they wait
        for (int seed = 0; seed < 20; seed++) {
            for (int times = 1; times <= 4; times++) {
                threeWait(seed, times);
            }
        }
        RingArm x = Check.plate(TEN + "s");
        x.ask(5, 1);
        x.serve();
        x.ask(2, 1);
        x.serve();
        int tick = x.days(5, 77, 0);
        int waited = x.days(5, 77, 1);
        for (int n = 0; n < 7; n++) {
            x.ask(9, 5);
        }
        long before = x.digest();
        e.due("what is asked now is not in them", x.days(5, 77, 0), tick);
        e.due("what is asked now is not in them", x.days(5, 77, 1), waited);
        e.due("as they would be: nothing changes", x.digest(), before);
        e.isTrue("from now on", tick > x.count(2));
    }

    /** Two wait till a third is asked, and only then the first one is done. */
    private void threeWait(int seed, int times) {
        RingArm x = Check.plate(TEN + "f");
        x.pass(5);
        int tick = x.days(times, seed, 0);
        int waited = x.days(times, seed, 1);
        int[] done = new int[times];
        int sum = 0;
        for (int n = 0; n < times; n++) {
            int ring = draw(seed, 2 * n + 1, 10);
            x.ask(ring, draw(seed, 2 * n + 2, x.ring(ring, 0)));
            done[n] = x.read(0);
            // the first three are asked at 5; the fourth, when one is done; and on
            sum += done[n] - (n < 3 ? 5 : done[n - 3]);
        }
        e.due("the tick of " + times + " by " + seed, tick, done[times - 1]);
        e.due("how long " + times + " by " + seed + " waited", waited, sum);
    }

    private void daysByEachKind() {
        for (int kind = 0; kind < 5; kind++) {
            for (int times : new int[] {1, 2, 3, 4, 20, 60}) {
                RingArm x = Check.plate(TEN + "fnsro".charAt(kind));
                daysBySteps(x, times, 1000 * kind + times);
                RingArm y = Check.plate(TEN + "s");
                y.ask(5, 1);
                y.serve();
                y.ask(4, 1);
                y.serve();
                e.due("outward", y.count(4), 0);
                y.choose(kind);
                daysBySteps(y, times, 500 * kind + times);
            }
        }
    }

    private void daysBySteps(RingArm x, int times, int seed) {
        int tick = x.days(times, seed, 0);
        int waited = x.days(times, seed, 1);
        int sum = 0;
        for (int n = 0; n < times; n++) {
            int ring = draw(seed, 2 * n + 1, 10);
            x.ask(ring, draw(seed, 2 * n + 2, x.ring(ring, 0)));
            sum += x.count(5) == 3 ? servedAfter(x) : 0;
        }
        while (x.count(5) > 0) {
            sum += servedAfter(x);
        }
        e.due("the tick of " + times + " by kind " + x.as(0), tick, x.count(2));
        e.due("how long " + times + " by kind " + x.as(0) + " waited", waited, sum);
    }

    private static int servedAfter(RingArm x) {
        int since = x.asked(x.next(), 2);
        return x.serve() - since;
    }

    // ---- promises 23 to 27

    private void see() {
        e.of(23, "It is SEEN: how much is. ");
        RingArm x = four();
        for (int n = 1; n <= 6; n++) {
            e.due("no. " + n, x.see(n, 10 * n), n);
            e.due("seen", x.count(9), n);
        }
        e.of(23, "OUTSIDE: rings (1 to 9), ticks (0 to 99); ");
        e.range("rings", SeenEdges::four, (y, rings) -> y.see(rings, 5), 1, 9, OUTSIDE);
        e.range("ticks", SeenEdges::four, (y, ticks) -> y.see(5, ticks), 0, 99, OUTSIDE);
        e.of(23, "STATE: no PLATE; ");
        RingArm none = new RingArm();
        e.due("no plate", none.see(1, 0), STATE);
        e.due("nothing is seen", none.count(9), 0);
        e.due("OUTSIDE is ahead of STATE", none.see(0, 0), OUTSIDE);
        e.due("OUTSIDE is ahead of STATE", none.see(1, 100), OUTSIDE);
        e.of(23, "FULL.");
        e.due("no. 7", x.see(1, 0), FULL);
        e.due("OUTSIDE is ahead of FULL", x.see(10, 0), OUTSIDE);
        e.due("OUTSIDE is ahead of FULL", x.see(1, -1), OUTSIDE);
        e.due("six are seen", x.count(9), 6);
    }

    private void forget() {
        e.of(24, "Nothing is SEEN any more: how much was.");
        e.due("no plate", new RingArm().forget(), 0);
        for (int many = 0; many <= 6; many++) {
            RingArm x = four();
            long before = x.digest();
            for (int n = 0; n < many; n++) {
                x.see(1, 50);
            }
            e.due("forget()", x.forget(), many);
            e.due("nothing", x.count(9), 0);
            e.due("forget() again", x.forget(), 0);
            e.due("all else is as it was", x.digest(), before);
            e.due("room again", x.see(1, 8), 1);
            e.due("what was seen is gone", x.steps(), 8 | 16 | 32);
        }
    }

    private void steps() {
        e.of(25, "STEPS, as bits. ");
        RingArm x = four();
        e.due("all", x.steps(), ALL);
        x.see(9, 12);
        e.due("the least", x.steps(), 1);
        x.see(9, 84);
        e.due("none", x.steps(), 0);
        x.forget();
        x.see(9, 84);
        e.due("the greatest", x.steps(), 256);
        e.of(25, "STATE: no PLATE.");
        e.due("no plate", new RingArm().steps(), STATE);
    }

    private void trial() {
        e.of(26, "TRY; NONE. ");
        RingArm x = four();
        e.due("all", x.trial(), 2);
        x.see(9, 84);
        e.due("one", x.trial(), 1);
        x.see(9, 12);
        e.due("none", x.trial(), NONE);
        e.due("changes nothing", x.count(9), 2);
        e.of(26, "STATE: no PLATE.");
        e.due("no plate", new RingArm().trial(), STATE);
    }

    private void days() {
        e.of(27, "DAYS: what = 0 the TICK, 1 how long all waited, 2 the SEED then. ");
        // seeds 12345, 1406932606: draws 0 and 21468: place 0 of ring 0
        RingArm x = Check.plate("2a2a2a2a;01;f");
        e.due("the tick", x.days(1, 0, 0), 12);
        e.due("how long it waited", x.days(1, 0, 1), 12);
        e.due("the seed then", x.days(1, 0, 2), 1406932606);
        x.pass(1);
        e.due("the tick, from 1 on", x.days(1, 0, 0), 36);
        e.due("how long it waited, from 1 on", x.days(1, 0, 1), 35);
    }

    private void daysRefused() {
        e.of(27, "OUTSIDE: times (1 to 60), seed (0 at least), what; ");
        e.range("times", SeenEdges::four, (x, times) -> x.days(times, 0, 0), 1, 60, OUTSIDE);
        e.range("what of days", SeenEdges::four, (x, what) -> x.days(1, 0, what), 0, 2, OUTSIDE);
        RingArm x = four();
        e.due("seed -1", x.days(1, -1, 0), OUTSIDE);
        e.due("the least seed", x.days(1, LOW, 2), OUTSIDE);
        e.due("seed 0", x.days(1, 0, 2), seedAfter(0, 2));
        e.due("the greatest seed", x.days(1, HIGH, 2), seedAfter(HIGH, 2));
        e.of(27, "STATE: no PLATE.");
        RingArm none = new RingArm();
        e.due("no plate", none.days(1, 0, 0), STATE);
        e.due("no plate", none.days(60, HIGH, 2), STATE);
        e.due("OUTSIDE times is ahead of STATE", none.days(0, 0, 0), OUTSIDE);
        e.due("OUTSIDE seed is ahead of STATE", none.days(1, -1, 0), OUTSIDE);
        e.due("OUTSIDE what is ahead of STATE", none.days(1, 0, 3), OUTSIDE);
    }
}
