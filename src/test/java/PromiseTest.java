/** For each promise of the document: ordinary inputs, the edges it names, and wrong inputs. */
public final class PromiseTest {
    private static final int NONE = -1, UNKNOWN = -101, OUTSIDE = -102, STATE = -103, FULL = -104;
    private static final int LOW = Integer.MIN_VALUE, HIGH = Integer.MAX_VALUE;
    /** Ten rings of two places (12 ticks each), START 0, STEP 1. */
    private static final String TEN = "2a2a2a2a2a2a2a2a2a2a;01;";
    private static final String FOUR = "ca8b6c4d;32;";

    private static final Check check = new Check();

    public static void main(String[] args) {
        newObject();
        letterAndBlank();
        fault();
        plate();
        plateEndsAllThatWas();
        ring();
        asked();
        as();
        nextByFirstAndNearest();
        nextBySweep();
        nextByRoundAndSoonest();
        ask();
        serve();
        read();
        pass();
        chooseSkewGear();
        run();
        least();
        leastSixteenTimes();
        weighAndLay();
        behind();
        apart();
        seeForgetSteps();
        trial();
        days();
        imageAndRestore();
        count();
        digest();
        check.end("PromiseTest");
    }

    private static void due(String call, long got, long want) {
        check.due(call, got, want);
    }

    private static void newObject() {
        RingArm x = new RingArm();
        due("1 constants", RingArm.NONE, NONE);
        due("1 constants", RingArm.UNKNOWN, UNKNOWN);
        due("1 constants", RingArm.OUTSIDE, OUTSIDE);
        due("1 constants", RingArm.STATE, STATE);
        due("1 constants", RingArm.FULL, FULL);
        for (int what = 0; what <= 12; what++) {
            due("1 count " + what, x.count(what), 0);
        }
        due("1 plate", x.plate(), STATE);
        due("1 fault", x.fault(), 0);
        due("1 blank", x.blank(), 0);
        due("1 ring", x.ring(0, 9), UNKNOWN);
        due("1 asked", x.asked(0, 9), UNKNOWN);
        due("1 as", x.as(0), STATE);
        due("1 next", x.next(), STATE);
        due("1 ask", x.ask(0, 0), UNKNOWN);
        due("1 serve", x.serve(), STATE);
        due("1 read", x.read(0), UNKNOWN);
        due("1 pass", x.pass(1), STATE);
        due("1 choose", x.choose(0), STATE);
        due("1 skew", x.skew(0, 99), UNKNOWN);
        due("1 gear", x.gear(1, 1), STATE);
        due("1 run", x.run(0, 0), STATE);
        due("1 least", x.least(0), STATE);
        due("1 weigh", x.weigh(0, 1), UNKNOWN);
        due("1 lay", x.lay(0), STATE);
        due("1 behind", x.behind(0, 1, 0), UNKNOWN);
        due("1 apart", x.apart(0, 0, 0), UNKNOWN);
        due("1 see", x.see(1, 1), STATE);
        due("1 forget", x.forget(), 0);
        due("1 steps", x.steps(), STATE);
        due("1 trial", x.trial(), STATE);
        due("1 days", x.days(1, 0, 0), STATE);
        due("1 image", x.image(), STATE);
        due("1 restore", x.restore(), STATE);
        long h = 1291;
        for (int i = 0; i < 13; i++) {
            h = 31 * h;
        }
        due("1 digest", x.digest(), h);
        // OUTSIDE is told ahead of STATE by these.
        due("1 as", x.as(5), OUTSIDE);
        due("1 pass", x.pass(0), OUTSIDE);
        due("1 choose", x.choose(-1), OUTSIDE);
        due("1 gear", x.gear(10, 1), OUTSIDE);
        due("1 run", x.run(5, 0), OUTSIDE);
        due("1 least", x.least(1), OUTSIDE);
        due("1 lay", x.lay(16), OUTSIDE);
        due("1 see", x.see(0, 0), OUTSIDE);
        due("1 days", x.days(0, 0, 0), OUTSIDE);
    }

    private static void letterAndBlank() {
        RingArm x = new RingArm();
        int[] wrong = {LOW, -1, 0, 127, 128, HIGH};
        for (int code : wrong) {
            due("2 letter(" + code + ")", x.letter(code), OUTSIDE);
        }
        due("2 letter(1)", x.letter(1), 1);
        due("2 letter(126)", x.letter(126), 2);
        due("3 blank", x.blank(), 2);
        due("3 count 10", x.count(10), 0);
        for (int i = 1; i <= 28; i++) {
            due("2 letter no. " + i, x.letter('2'), i);
        }
        due("2 letter no. 29", x.letter('2'), FULL);
        due("2 wrong letter no. 29", x.letter(127), OUTSIDE);
        due("2 count 10", x.count(10), 28);
        due("3 blank", x.blank(), 28);
        due("3 blank again", x.blank(), 0);
        due("2 letter", x.letter('2'), 1);
    }

    private static void fault() {
        faultIs("", 0);
        faultIs(";", 0);
        faultIs("5", 0);
        faultIs("1a", 0);
        faultIs("C", 0);
        faultIs("2a3b4c6d8ecx", 12);
        faultIs("2y", 1);
        faultIs("2A", 1);
        faultIs("2`", 1);
        faultIs("2;", 1);
        faultIs("2a2a2a;", 6);
        faultIs("2a2a2a2a;", 9);
        faultIs("2a2a2a2a2a;", 11);
        faultIs("2a2a2a2a2a2a2a2a2a2a", 20);
        faultIs("2a2a2a2a2a2a2a2a2a2a2", 20);
        faultIs(TEN + "f", 25);
        faultIs(TEN + "ff", 25);
        faultIs("2a2a2a2a;a", 9);
        faultIs("2a2a2a2a;:", 9);
        faultIs("2a2a2a2a;0", 10);
        faultIs("2a2a2a2a;00", 10);
        faultIs("2a2a2a2a;9:", 10);
        faultIs("2a2a2a2a;99", 11);
        faultIs("2a2a2a2a;991", 11);
        faultIs("2a2a2a2a;01;x", 12);
        faultIs("2a2a2a2a;01;F", 12);
        faultIs("2a2a2a2a;01;n", 13);
        faultIs("2a2a2a2a;01;;", 12);
        faultIs("2a2a2a2a;01;o;", 13);
        faultIs("2a2a2a2a;01;fnsro", 13);
    }

    private static void faultIs(String text, int place) {
        RingArm x = new RingArm();
        Check.write(x, text);
        due("4 fault of " + text, x.fault(), place);
        due("4 fault of " + text + " changes nothing", x.count(10), text.length());
    }

    private static void plate() {
        String[] none = {"", "2a2a2a2a", "2a2a2a2a;", "2a2a2a2a;0", "2a2a2a2a;01", "2a2a2a2a;01;",
            "2a2a2a;01;f", "2a2a2a2a;00;f", "2a2a2a2a;01;z", "2a2a2a2a;01;ff", "2a2a2a2a2;01;f",
            "2a2a2a2a2a2a2a2a2a2a2a;01;f"};
        for (String text : none) {
            RingArm x = new RingArm();
            Check.write(x, text);
            due("5 plate of " + text, x.plate(), STATE);
            due("5 page stays", x.count(10), text.length());
            due("5 none was read", x.count(11), 0);
        }
        String letters = "fnsro";
        for (int kind = 0; kind < 5; kind++) {
            RingArm x = new RingArm();
            Check.write(x, FOUR + letters.charAt(kind));
            due("5 plate", x.plate(), 4);
            due("5 policy", x.choose(0), kind);
            due("5 page is empty", x.count(10), 0);
        }
        RingArm x = Check.plate("2a3b4c6d8ecf2x3w4v6u;95;s");
        int[] places = {2, 3, 4, 6, 8, 12, 2, 3, 4, 6};
        int[] offsets = {0, 1, 2, 3, 4, 5, 23, 22, 21, 20};
        for (int r = 0; r < 10; r++) {
            due("5 places of " + r, x.ring(r, 0), places[r]);
            due("5 offset of " + r, x.ring(r, 1), offsets[r]);
            due("5 lasts of " + r, x.ring(r, 2), 24 / places[r]);
        }
        due("5 places of all", x.count(1), 50);
        due("5 start", x.count(6), 9);
        due("5 step", x.count(7), 5);
    }

    private static void plateEndsAllThatWas() {
        RingArm x = Check.plate(TEN + "s");
        x.ask(5, 1);
        x.serve();
        x.ask(0, 0);
        x.serve();
        due("5 outward", x.count(4), 0);
        x.ask(1, 1);
        x.weigh(3, 4);
        x.weigh(0, 4);
        x.see(1, 1);
        x.skew(2, 7);
        x.gear(4, 4);
        x.least(0);
        x.image();
        Check.write(x, FOUR);
        due("5 not yet", x.plate(), STATE);
        due("5 all stays", x.count(5), 1);
        x.letter('n');
        due("5 another one", x.plate(), 4);
        int[] counts = {4, 30, 0, 0, 1, 0, 3, 2, 0, 0, 0, 2, 1};
        for (int what = 0; what < counts.length; what++) {
            due("5 count " + what, x.count(what), counts[what]);
        }
        due("5 offset", x.ring(2, 1), 2);
        due("5 policy", x.as(1), 1);
        due("5 a ring that is gone", x.ring(4, 0), UNKNOWN);
        due("29 another plate since", x.restore(), STATE);
        due("19 weight is gone", x.weigh(3, 1), 0);
        due("19 weight is gone", x.weigh(0, 1), 0);
    }

    private static void ring() {
        RingArm x = Check.plate(FOUR + "f");
        int[] wrong = {LOW, -1, 4, HIGH};
        for (int ring : wrong) {
            due("6 ring(" + ring + ", 0)", x.ring(ring, 0), UNKNOWN);
            due("6 ring(" + ring + ", 5)", x.ring(ring, 5), UNKNOWN);
        }
        due("6 what", x.ring(0, -1), OUTSIDE);
        due("6 what", x.ring(3, 5), OUTSIDE);
        due("6 what", x.ring(3, HIGH), OUTSIDE);
        due("6 places", x.ring(0, 0), 12);
        due("6 offset", x.ring(3, 1), 3);
        due("6 lasts", x.ring(1, 2), 3);
        due("6 nothing asked", x.ring(1, 3), 0);
        x.ask(1, 0);
        x.ask(2, 0);
        x.ask(1, 0);
        due("6 bits", x.ring(1, 3), 5);
        due("6 bits", x.ring(2, 3), 2);
        due("6 bits", x.ring(0, 3), 0);
        due("6 to its own", x.ring(0, 4), 0);
        due("6 to the next", x.ring(1, 4), 5);
        due("6 to the last", x.ring(3, 4), 9);
        x.read(1);
        due("6 from 2 outward", x.ring(0, 4), 7);
        due("6 from 2 inward", x.ring(3, 4), 5);
        due("6 to its own", x.ring(2, 4), 0);
        due("6 bits", x.ring(1, 3), 3);
    }

    private static void asked() {
        RingArm x = Check.plate(FOUR + "f");
        x.pass(2);
        x.ask(0, 1);
        x.pass(1);
        x.ask(1, 7);
        due("7 ring", x.asked(0, 0), 0);
        due("7 ring", x.asked(1, 0), 1);
        due("7 place", x.asked(1, 1), 7);
        due("7 since", x.asked(0, 2), 2);
        due("7 since", x.asked(1, 2), 3);
        // place 1 begins at 2, 26, ..; it is 3
        due("7 done", x.asked(0, 3), 28);
        // there at 8; place 7 begins at 22
        due("7 done", x.asked(1, 3), 25);
        due("7 unknown", x.asked(2, 0), UNKNOWN);
        due("7 unknown", x.asked(-1, 4), UNKNOWN);
        due("7 unknown", x.asked(LOW, 0), UNKNOWN);
        due("7 unknown", x.asked(HIGH, 0), UNKNOWN);
        due("7 what", x.asked(0, 4), OUTSIDE);
        due("7 what", x.asked(0, -1), OUTSIDE);
        RingArm y = Check.plate(FOUR + "f");
        y.ask(0, 0);
        due("7 it begins just then", y.asked(0, 3), 2);
        y.pass(1);
        due("7 it began already", y.asked(0, 3), 26);
        y.ask(2, 1);
        // there at 1 + 7 = 8; place 1 of ring 2 begins at 6, 30, ..
        due("7 came too late", y.asked(1, 3), 34);
        y.skew(2, 4);
        due("7 it begins as the arm comes", y.asked(1, 3), 12);
    }

    private static void as() {
        int[][] is = {
            {0, NONE, NONE, NONE, NONE},
            {1, 1, NONE, NONE, NONE},
            {2, NONE, 2, NONE, NONE},
            {3, NONE, 3, 3, NONE},
            {4, 4, NONE, NONE, 4},
        };
        RingArm x = Check.plate(FOUR + "f");
        for (int policy = 0; policy < 5; policy++) {
            x.choose(policy);
            for (int kind = 0; kind < 5; kind++) {
                due("8 policy " + policy + " as " + kind, x.as(kind), is[policy][kind]);
            }
        }
        due("8 outside", x.as(-1), OUTSIDE);
        due("8 outside", x.as(5), OUTSIDE);
        due("8 outside", x.as(LOW), OUTSIDE);
        due("8 outside", x.as(HIGH), OUTSIDE);
    }

    private static void nextByFirstAndNearest() {
        RingArm x = Check.plate(TEN + "f");
        due("9 nothing asked", x.next(), NONE);
        x.ask(5, 0);
        x.read(0);
        x.ask(9, 0);
        x.ask(3, 0);
        x.ask(7, 0);
        x.ask(7, 1);
        due("9 first", x.next(), 0);
        x.choose(1);
        due("9 nearest, of like ones the least", x.next(), 1);
        x.ask(4, 0);
        due("9 nearest", x.next(), 4);
        x.ask(5, 1);
        due("9 nearest is where the arm is", x.next(), 5);
        x.choose(0);
        due("9 first", x.next(), 0);
        due("9 changes nothing", x.count(5), 6);
    }

    private static void nextBySweep() {
        RingArm x = Check.plate(TEN + "s");
        x.ask(5, 0);
        x.serve();
        x.ask(1, 0);
        x.ask(4, 0);
        x.ask(8, 0);
        x.ask(8, 1);
        due("9 sweep: farther on, of like ones the least", x.next(), 2);
        x.ask(5, 1);
        due("9 sweep: where the arm is", x.next(), 4);
        x.serve();
        x.serve();
        due("9 sweep: still inward", x.count(4), 1);
        x.serve();
        due("9 sweep: at 8", x.count(3), 8);
        due("9 sweep: inward till another is done", x.count(4), 1);
        due("9 sweep: about, and then the nearest", x.next(), 1);
        due("9 next alone does not turn it", x.count(4), 1);
        x.serve();
        due("9 sweep: outward from then on", x.count(4), 0);
        x.ask(4, 1);
        x.ask(6, 0);
        due("9 sweep: where the arm is, outward", x.next(), 1);
        x.serve();
        due("9 sweep: on outward", x.next(), 0);
        x.serve();
        due("9 sweep: at 1", x.count(3), 1);
        due("9 sweep: about again", x.next(), 0);
        x.serve();
        due("9 sweep: inward again", x.count(4), 1);
    }

    private static void nextByRoundAndSoonest() {
        RingArm x = Check.plate(TEN + "r");
        x.ask(5, 0);
        x.serve();
        x.ask(4, 0);
        x.ask(1, 0);
        x.ask(1, 1);
        due("9 round: from ring 0 on, of like ones the least", x.next(), 1);
        x.ask(9, 0);
        due("9 round: farther inward", x.next(), 3);
        x.ask(5, 1);
        due("9 round: where the arm is", x.next(), 4);
        x.serve();
        x.serve();
        x.serve();
        due("9 round: at 1", x.count(3), 1);
        due("9 round does not turn it", x.count(4), 1);
        RingArm y = Check.plate("4a4a4a4a;11;o");
        y.ask(0, 3);
        y.ask(3, 1);
        y.ask(2, 1);
        y.ask(1, 2);
        // done at 24; there at 4, begins 6, done 12; there at 3, done 12; there at 2, begins 12, done 18
        due("9 soonest, of like ones the least", y.next(), 1);
        y.choose(1);
        due("9 nearest", y.next(), 0);
    }

    private static void ask() {
        RingArm x = Check.plate(FOUR + "f");
        due("10 ring", x.ask(-1, 0), UNKNOWN);
        due("10 ring", x.ask(4, 0), UNKNOWN);
        due("10 ring", x.ask(HIGH, HIGH), UNKNOWN);
        due("10 place", x.ask(0, 12), UNKNOWN);
        due("10 place", x.ask(1, 8), UNKNOWN);
        due("10 place", x.ask(3, 4), UNKNOWN);
        due("10 place", x.ask(3, -1), UNKNOWN);
        due("10 place", x.ask(3, LOW), UNKNOWN);
        due("10 nothing changed", x.count(5), 0);
        for (int i = 1; i <= 7; i++) {
            due("10 one may be asked twice", x.ask(0, 11), i);
        }
        due("10 full", x.ask(0, 11), FULL);
        due("10 unknown ahead of full", x.ask(0, 12), UNKNOWN);
        due("10 seven", x.count(5), 7);
        x.serve();
        due("10 room again", x.ask(3, 3), 7);
        due("10 the last one", x.asked(6, 0), 3);
    }

    private static void serve() {
        RingArm x = Check.plate(FOUR + "f");
        due("11 nothing asked", x.serve(), STATE);
        x.ask(0, 0);
        x.ask(1, 1);
        x.ask(2, 2);
        due("11 done", x.serve(), 2);
        due("11 those behind are one less", x.asked(0, 0), 1);
        due("11 those behind are one less", x.asked(1, 1), 2);
        due("11 one fewer", x.count(5), 2);
        // there at 7; place 1 of ring 1 begins at 4, 28
        due("11 done", x.serve(), 31);
        due("11 the arm is there", x.count(3), 1);
        // there at 36; place 2 of ring 2 begins at 10, 34, 58
        due("11 done", x.serve(), 62);
        due("11 the tick", x.count(2), 62);
        due("11 nothing asked", x.serve(), STATE);
        RingArm y = atTick(99996);
        y.ask(0, 1);
        // place 1 begins at 99998 (99998 by 24 leaves 14)
        y.skew(0, 12);
        due("11 at the last tick", y.asked(0, 3), 100000);
        y.ask(0, 2);
        due("11 done", y.serve(), 100000);
        due("11 behind it", y.serve(), FULL);
        due("12 behind it", y.read(0), FULL);
        due("11 nothing changed", y.count(5), 1);
        due("11 nothing changed", y.count(2), 100000);
        due("12 unknown ahead of full", y.read(1), UNKNOWN);
        RingArm v = atTick(99996);
        v.ask(0, 1);
        v.skew(0, 12);
        due("12 at the last tick", v.read(0), 100000);
        RingArm z = atTick(99996);
        z.ask(0, 1);
        z.skew(0, 13);
        due("11 one tick behind it", z.serve(), FULL);
        due("12 one tick behind it", z.read(0), FULL);
        due("17 what would be may be behind it", z.run(0, 0), 100001);
    }

    /** A plate at a tick; near the last one this takes more calls than an object is promised for, but all the same. */
    private static RingArm atTick(int tick) {
        RingArm x = Check.plate("ca2a2a2a2a;99;f");
        while (x.count(2) < tick) {
            x.pass(Math.min(99, tick - x.count(2)));
        }
        return x;
    }

    private static void read() {
        RingArm x = Check.plate(TEN + "s");
        x.ask(5, 1);
        x.ask(1, 0);
        x.ask(3, 1);
        due("12 unknown", x.read(3), UNKNOWN);
        due("12 unknown", x.read(-1), UNKNOWN);
        due("12 unknown", x.read(LOW), UNKNOWN);
        due("12 unknown", x.read(HIGH), UNKNOWN);
        due("12 done", x.read(0), 24);
        due("12 the arm is there", x.count(3), 5);
        due("12 another than the next", x.read(1), 48);
        due("12 how the arm goes stays", x.count(4), 1);
        due("12 the arm is there", x.count(3), 3);
        due("12 the other one is left", x.asked(0, 0), 1);
        due("12 so many", x.count(5), 1);
    }

    private static void pass() {
        RingArm x = Check.plate(FOUR + "f");
        int[] wrong = {LOW, -1, 0, 100, HIGH};
        for (int ticks : wrong) {
            due("13 pass(" + ticks + ")", x.pass(ticks), OUTSIDE);
        }
        due("13 pass", x.pass(1), 1);
        due("13 pass", x.pass(99), 100);
        RingArm y = atTick(99990);
        due("13 pass", y.count(2), 99990);
        due("13 behind the last tick", y.pass(11), FULL);
        due("13 outside ahead of full", y.pass(100), OUTSIDE);
        due("13 nothing changed", y.count(2), 99990);
        due("13 to the last tick", y.pass(10), 100000);
        due("13 behind the last tick", y.pass(1), FULL);
    }

    private static void chooseSkewGear() {
        RingArm x = Check.plate(FOUR + "r");
        due("14 outside", x.choose(-1), OUTSIDE);
        due("14 outside", x.choose(5), OUTSIDE);
        due("14 it was", x.choose(4), 3);
        due("14 it was", x.choose(0), 4);
        due("14 it was", x.choose(0), 0);
        due("15 unknown", x.skew(4, 0), UNKNOWN);
        due("15 unknown", x.skew(-1, 24), UNKNOWN);
        due("15 outside", x.skew(0, 24), OUTSIDE);
        due("15 outside", x.skew(0, -1), OUTSIDE);
        due("15 outside", x.skew(0, LOW), OUTSIDE);
        due("15 it had", x.skew(1, 23), 1);
        due("15 it had", x.skew(1, 0), 23);
        due("15 it has", x.ring(1, 1), 0);
        due("15 others stay", x.ring(2, 1), 2);
        due("16 outside", x.gear(-1, 1), OUTSIDE);
        due("16 outside", x.gear(10, 1), OUTSIDE);
        due("16 outside", x.gear(0, 0), OUTSIDE);
        due("16 outside", x.gear(0, 10), OUTSIDE);
        due("16 outside", x.gear(HIGH, LOW), OUTSIDE);
        due("16 nothing changed", x.count(6), 3);
        due("16 it had", x.gear(0, 9), 2);
        due("16 it had", x.gear(9, 1), 9);
        due("16 start", x.count(6), 9);
        due("16 step", x.count(7), 1);
        due("16 the arm goes so", x.ring(3, 4), 12);
    }

    private static void run() {
        RingArm x = Check.plate("4a4a4a4a;11;f");
        x.pass(5);
        for (int kind = 0; kind < 5; kind++) {
            due("17 now", x.run(kind, 0), 5);
            due("17 nothing waited", x.run(kind, 1), 0);
        }
        x.ask(3, 0);
        x.pass(1);
        x.ask(1, 1);
        // FIRST: there at 10, begins 24, done 30; there at 33, begins 54, done 60
        due("17 first", x.run(0, 0), 60);
        due("17 first waited", x.run(0, 1), 25 + 54);
        // NEAREST: there at 8, begins 30, done 36; there at 39, begins 48, done 54
        due("17 nearest", x.run(1, 0), 54);
        due("17 nearest waited", x.run(1, 1), 30 + 49);
        due("17 sweep", x.run(2, 0), 54);
        due("17 round", x.run(3, 1), 79);
        // SOONEST: ring 3 is done at 30, ring 1 at 36
        due("17 soonest", x.run(4, 0), 60);
        due("17 soonest waited", x.run(4, 1), 79);
        due("17 changes nothing", x.count(2), 6);
        due("17 changes nothing", x.count(5), 2);
        due("17 changes nothing", x.choose(0), 0);
        due("17 kind", x.run(-1, 0), OUTSIDE);
        due("17 kind", x.run(5, 0), OUTSIDE);
        due("17 what", x.run(0, 2), OUTSIDE);
        due("17 what", x.run(0, -1), OUTSIDE);
        due("17 what", x.run(4, HIGH), OUTSIDE);
        runGoingOutward();
    }

    private static void runGoingOutward() {
        RingArm x = Check.plate(TEN + "s");
        x.ask(5, 0);
        x.serve();
        x.ask(4, 0);
        x.serve();
        due("17 outward", x.count(4), 0);
        x.ask(5, 1);
        x.ask(2, 1);
        x.ask(2, 0);
        long tick = x.run(2, 0);
        long waited = x.run(2, 1);
        due("17 a run turns nothing", x.count(4), 0);
        long since = x.count(2);
        due("17 sweep goes on outward", x.next(), 1);
        long sum = x.serve() - since;
        sum += x.serve() - since;
        due("17 then about", x.asked(0, 0), 5);
        sum += x.serve() - since;
        due("17 as it was told", x.count(2), tick);
        due("17 as it was told", sum, waited);
        due("17 inward again", x.count(4), 1);
    }

    private static void least() {
        RingArm x = Check.plate("4a4g4m4s;06;n");
        due("18 now", x.least(0), 0);
        due("18 not so many", x.least(10), NONE);
        x.ask(3, 0);
        x.ask(1, 1);
        x.ask(0, 1);
        x.ask(2, 0);
        due("18 the tick", x.least(0), 84);
        due("18 first", x.least(10), 0);
        due("18 last", x.least(13), 2);
        due("18 not so many", x.least(14), NONE);
        due("18 not so many", x.least(16), NONE);
        due("18 outside", x.least(17), OUTSIDE);
        due("18 outside", x.least(9), OUTSIDE);
        due("18 outside", x.least(1), OUTSIDE);
        due("18 outside", x.least(-1), OUTSIDE);
        due("18 outside", x.least(LOW), OUTSIDE);
        due("18 so often", x.count(12), 7);
        due("18 changes nothing", x.count(5), 4);
        due("18 changes nothing", x.count(2), 0);
        RingArm y = Check.plate("2a2a2a2a;01;n");
        for (int i = 0; i < 7; i++) {
            y.ask(0, 0);
        }
        due("18 like ones", y.least(0), 12 + 6 * 24);
        for (int i = 0; i < 7; i++) {
            due("18 like ones by numbers", y.least(10 + i), i);
        }
    }

    private static void leastSixteenTimes() {
        RingArm x = Check.plate(FOUR + "f");
        x.ask(1, 1);
        for (int i = 1; i <= 16; i++) {
            due("18 time " + i, x.least(i % 2 == 0 ? 0 : 10 + i % 7), i % 2 == 0 ? 31 : i % 7 == 0 ? 0 : NONE);
            due("18 outside does not count", x.least(2), OUTSIDE);
            due("18 so often", x.count(12), i);
        }
        due("18 sixteen times", x.least(0), STATE);
        due("18 outside ahead of state", x.least(20), OUTSIDE);
        due("18 so often", x.count(12), 16);
        x.image();
        x.restore();
        due("18 an image does not keep it", x.least(0), STATE);
        Check.write(x, FOUR + "f");
        x.plate();
        due("18 nor does another plate end it", x.least(0), STATE);
    }

    private static void weighAndLay() {
        RingArm x = Check.plate(FOUR + "f");
        due("19 no ring 4", x.weigh(4, 1), UNKNOWN);
        due("19 thing", x.weigh(-1, 1), UNKNOWN);
        due("19 thing", x.weigh(LOW, 99), UNKNOWN);
        due("19 weight", x.weigh(0, 10), OUTSIDE);
        due("19 weight", x.weigh(0, -1), OUTSIDE);
        due("20 no things", x.lay(0), 0);
        due("20 no things", x.lay(10), NONE);
        due("19 it had", x.weigh(0, 1), 0);
        due("19 things", x.count(8), 1);
        due("20 one thing", x.lay(10), 0);
        due("20 one thing", x.lay(11), NONE);
        due("19 it had", x.weigh(0, 0), 1);
        due("19 it had", x.weigh(2, 9), 0);
        due("19 things", x.count(8), 3);
        due("20 one alone", x.lay(0), 0);
        due("20 by numbers", x.lay(10), 0);
        due("20 by numbers", x.lay(11), 1);
        due("20 by numbers", x.lay(12), 2);
        due("20 none such", x.lay(13), NONE);
        due("20 none such", x.lay(15), NONE);
        due("20 outside", x.lay(16), OUTSIDE);
        due("20 outside", x.lay(9), OUTSIDE);
        due("20 outside", x.lay(-1), OUTSIDE);
        x.weigh(0, 5);
        x.weigh(1, 1);
        due("20 how much", x.lay(0), 5 * 9 + 9 * 1 + 5 * 1 * 2);
        due("20 thing 1 outermost", x.lay(11), 2);
        due("20 thing 2 between", x.lay(12), 1);
        due("19 it had", x.weigh(2, 0), 9);
        due("19 things", x.count(8), 2);
        due("20 how much", x.lay(0), 5);
        RingArm y = Check.plate(TEN + "f");
        due("19 thing", y.weigh(6, 1), UNKNOWN);
        for (int t = 0; t < 6; t++) {
            y.weigh(t, 1);
        }
        due("19 things", y.count(8), 6);
        due("20 six like ones", y.lay(0), 35);
        for (int t = 0; t < 6; t++) {
            due("20 like ones by numbers", y.lay(10 + t), t);
        }
        y.weigh(0, 9);
        // 0 on ring 2: others are 1 and 2 away on one side, 1, 2 and 3 on the other; 1 to 5 apart as they were
        due("20 the heavy one in the middle", y.lay(0), 9 * 9 + 26);
        due("20 the heavy one in the middle", y.lay(10), 2);
        due("20 the others by numbers", y.lay(11), 0);
        due("20 the others by numbers", y.lay(13), 3);
    }

    private static void behind() {
        RingArm x = Check.plate("4a4g4m4s;06;n");
        due("21 ring", x.behind(-1, 0, 0), UNKNOWN);
        due("21 ring", x.behind(4, 0, 9), UNKNOWN);
        due("21 other", x.behind(0, 4, 0), UNKNOWN);
        due("21 other", x.behind(0, LOW, 0), UNKNOWN);
        due("21 the same", x.behind(2, 2, 0), UNKNOWN);
        due("21 what", x.behind(0, 1, 3), OUTSIDE);
        due("21 what", x.behind(0, 1, -1), OUTSIDE);
        due("21 without waiting", x.behind(0, 1, 0), 54);
        due("21 best", x.behind(0, 1, 1), 6);
        due("21 by that", x.behind(0, 1, 2), 54);
        // there at 6 + 24 + 6, by 24 leaves 12; ring 0 begins at 24
        due("21 outward", x.behind(1, 0, 0), 66);
        due("21 outward best", x.behind(1, 0, 1), 12);
        due("21 outward by that", x.behind(1, 0, 2), 54);
        x.skew(1, 5);
        due("21 a tick too late", x.behind(0, 1, 0), 77);
        x.gear(9, 9);
        due("21 best goes around", x.behind(3, 0, 1), (18 + 36) % 24);
        due("21 by that", x.behind(3, 0, 2), 84);
    }

    private static void apart() {
        RingArm x = Check.plate("2a3a4a6a8aca;32;n");
        due("22 ring", x.apart(-1, 0, 0), UNKNOWN);
        due("22 ring", x.apart(6, 24, 2), UNKNOWN);
        due("22 think", x.apart(0, -1, 0), OUTSIDE);
        due("22 think", x.apart(0, 24, 0), OUTSIDE);
        due("22 think", x.apart(0, HIGH, 0), OUTSIDE);
        due("22 what", x.apart(0, 0, 2), OUTSIDE);
        due("22 what", x.apart(0, 0, -1), OUTSIDE);
        for (int r = 0; r < 6; r++) {
            due("22 no time to think", x.apart(r, 0, 0), 1);
            due("22 no time to think", x.apart(r, 0, 1), 24);
        }
        due("22 two", x.apart(0, 1, 0), 1);
        due("22 two", x.apart(0, 1, 1), 36 + 12);
        due("22 three", x.apart(1, 8, 0), 2);
        due("22 three", x.apart(1, 8, 1), 2 * 16 + 8);
        due("22 three, once more around", x.apart(1, 9, 0), 1);
        due("22 three, once more around", x.apart(1, 9, 1), 2 * 32 + 8);
        due("22 four", x.apart(2, 6, 0), 3);
        due("22 six", x.apart(3, 1, 0), 5);
        due("22 six", x.apart(3, 1, 1), 5 * 20 + 4);
        due("22 eight", x.apart(4, 4, 0), 3);
        due("22 eight", x.apart(4, 7, 0), 5);
        due("22 twelve", x.apart(5, 8, 0), 5);
        due("22 twelve", x.apart(5, 9, 0), 7);
        due("22 twelve", x.apart(5, 23, 0), 1);
        due("22 twelve", x.apart(5, 23, 1), 11 * 26 + 2);
    }

    private static void seeForgetSteps() {
        RingArm x = Check.plate(FOUR + "f");
        due("23 rings", x.see(0, 5), OUTSIDE);
        due("23 rings", x.see(10, 5), OUTSIDE);
        due("23 ticks", x.see(1, -1), OUTSIDE);
        due("23 ticks", x.see(1, 100), OUTSIDE);
        due("25 nothing seen", x.steps(), 511);
        due("23 the most ticks", x.see(9, 99), 1);
        due("24 forget", x.forget(), 1);
        due("23 seen", x.see(1, 8), 1);
        // START is 3: 5 in truth, or one more or fewer
        due("25 steps", x.steps(), 8 + 16 + 32);
        due("23 seen", x.see(2, 12), 2);
        due("25 steps", x.steps(), 8 + 16);
        x.gear(2, 1);
        due("25 START as it is", x.steps(), 16);
        due("24 forget", x.forget(), 2);
        due("24 forget", x.forget(), 0);
        due("25 nothing seen", x.steps(), 511);
        for (int i = 1; i <= 6; i++) {
            due("23 seen", x.see(9, 83), i);
        }
        due("23 full", x.see(9, 83), FULL);
        due("23 outside ahead of full", x.see(9, 100), OUTSIDE);
        due("25 steps", x.steps(), 256);
        due("24 forget", x.forget(), 6);
        due("23 seen", x.see(1, 0), 1);
        due("25 none", x.steps(), 0);
        due("26 none", x.trial(), NONE);
    }

    private static void trial() {
        RingArm x = Check.plate(FOUR + "f");
        due("26 nine left", x.trial(), 2);
        x.see(2, 9);
        due("25 one left", x.steps(), 4);
        due("26 one left", x.trial(), 1);
        x.forget();
        x.see(1, 8);
        due("26 three left", x.trial(), 2);
        x.see(1, 6);
        due("25 one left", x.steps(), 8);
        due("26 one left", x.trial(), 1);
        x.forget();
        x.see(1, 3);
        due("25 the least alone", x.steps(), 1);
        x.forget();
        x.see(1, 4);
        due("25 two left", x.steps(), 3);
        due("26 two left", x.trial(), 2);
        due("26 changes nothing", x.count(9), 1);
    }

    private static void days() {
        RingArm x = Check.plate("2a2a2a2a;01;f");
        due("27 times", x.days(0, 0, 0), OUTSIDE);
        due("27 times", x.days(61, 0, 0), OUTSIDE);
        due("27 seed", x.days(1, -1, 0), OUTSIDE);
        due("27 seed", x.days(1, LOW, 0), OUTSIDE);
        due("27 what", x.days(1, 0, 3), OUTSIDE);
        due("27 what", x.days(1, 0, -1), OUTSIDE);
        // seeds 12345, 1406932606: draws 0 and 21468: place 0 of ring 0
        due("27 the seed then", x.days(1, 0, 2), 1406932606);
        due("27 the tick", x.days(1, 0, 0), 12);
        due("27 waited", x.days(1, 0, 1), 12);
        x.pass(1);
        x.ask(3, 0);
        due("27 from now on", x.days(1, 0, 0), 36);
        due("27 what is asked now is not", x.days(1, 0, 1), 35);
        due("27 changes nothing", x.count(5), 1);
        due("27 changes nothing", x.count(2), 1);
        due("27 the greatest seed", x.days(60, HIGH, 2), seedAfter(HIGH, 120));
        // seeds 654583775, 1449466924, 229283573, 1109335178: draws 9988, 22117, 3498, 16927
        due("27 two wait till all are asked", x.days(2, 1406932606, 2), 1109335178);
        // ring 0 place 1: begins 12, done 24; ring 2 place 1: there at 26, begins 36, done 48
        due("27 the tick", x.days(2, 1406932606, 0), 48);
        due("27 waited", x.days(2, 1406932606, 1), 23 + 47);
        for (int kind = 0; kind < 5; kind++) {
            for (int times = 1; times <= 12; times++) {
                daysByCalls(kind, times, 100 * kind + times);
            }
        }
    }

    /** The days once more, by asking and serving. */
    private static void daysByCalls(int kind, int times, int seed) {
        RingArm y = Check.plate("ca8b6c4d3e2f;32;f");
        y.choose(kind);
        int tick = y.days(times, seed, 0);
        int all = y.days(times, seed, 1);
        int waited = 0;
        for (int i = 0; i < times; i++) {
            int ring = seedAfter(seed, 2 * i + 1) / 65536 % 6;
            y.ask(ring, seedAfter(seed, 2 * i + 2) / 65536 % y.ring(ring, 0));
            if (y.count(5) >= 3) {
                waited += waitedByServing(y);
            }
        }
        while (y.count(5) > 0) {
            waited += waitedByServing(y);
        }
        due("27 the tick by kind " + kind + ", " + times + " times", tick, y.count(2));
        due("27 waited by kind " + kind + ", " + times + " times", all, waited);
    }

    private static int waitedByServing(RingArm y) {
        int since = y.asked(y.next(), 2);
        return y.serve() - since;
    }

    private static int seedAfter(long seed, int draws) {
        java.math.BigInteger s = java.math.BigInteger.valueOf(seed);
        for (int i = 0; i < draws; i++) {
            s = s.multiply(java.math.BigInteger.valueOf(1103515245)).add(java.math.BigInteger.valueOf(12345))
                .mod(java.math.BigInteger.TWO.pow(31));
        }
        return s.intValue();
    }

    private static void imageAndRestore() {
        RingArm x = Check.plate(TEN + "s");
        due("29 none was kept", x.restore(), STATE);
        x.ask(5, 0);
        x.serve();
        x.ask(4, 0);
        x.serve();
        x.ask(2, 1);
        x.pass(3);
        x.ask(9, 1);
        x.weigh(2, 5);
        x.see(3, 9);
        x.skew(1, 8);
        x.gear(2, 3);
        int tick = x.count(2);
        long before = x.digest();
        due("28 the tick", x.image(), tick);
        x.letter('z');
        x.least(0);
        x.serve();
        x.serve();
        x.ask(3, 0);
        x.weigh(4, 4);
        x.weigh(2, 0);
        x.forget();
        x.see(1, 1);
        x.skew(1, 1);
        x.gear(9, 9);
        x.choose(4);
        due("29 the tick", x.restore(), tick);
        due("29 the page is not in it", x.count(10), 1);
        due("29 nor how often least was done", x.count(12), 1);
        x.blank();
        due("29 tick", x.count(2), tick);
        due("29 the arm", x.count(3), 4);
        due("29 outward", x.count(4), 0);
        due("29 asked", x.count(5), 2);
        due("29 since", x.asked(0, 2), tick - 3);
        due("29 since", x.asked(1, 2), tick);
        due("29 offset", x.ring(1, 1), 8);
        due("29 policy", x.as(2), 2);
        // the count of least() is the digest's last number
        due("29 all the rest", x.digest(), before + 1);
        x.pass(1);
        due("29 it is kept yet", x.restore(), tick);
        x.pass(5);
        due("28 the latest", x.image(), tick + 5);
        due("29 the latest", x.restore(), tick + 5);
        Check.write(x, TEN + "s");
        x.plate();
        due("29 another plate since", x.restore(), STATE);
        due("28 the tick", x.image(), 0);
        due("29 kept again", x.restore(), 0);
    }

    private static void count() {
        RingArm x = Check.plate(FOUR + "s");
        x.pass(7);
        x.ask(2, 1);
        x.ask(3, 1);
        x.ask(3, 1);
        x.read(0);
        x.weigh(3, 1);
        x.see(1, 1);
        x.see(1, 1);
        x.least(0);
        x.letter('x');
        // there at 14; place 1 of ring 2 begins at 6, 30
        int[] counts = {4, 30, 34, 2, 1, 2, 3, 2, 4, 2, 1, 1, 1};
        for (int what = 0; what < counts.length; what++) {
            due("30 count " + what, x.count(what), counts[what]);
        }
        due("30 outside", x.count(-1), OUTSIDE);
        due("30 outside", x.count(13), OUTSIDE);
        due("30 outside", x.count(LOW), OUTSIDE);
        due("30 outside", x.count(HIGH), OUTSIDE);
    }

    private static void digest() {
        RingArm x = Check.plate("2a3b4c6d8ecx;32;o");
        due("31 new plate", x.digest(), byCalls(x, ""));
        x.ask(3, 2);
        x.ask(5, 11);
        x.ask(5, 0);
        x.weigh(4, 3);
        x.weigh(1, 7);
        x.see(2, 9);
        due("31 all that is told", x.digest(), byCalls(x, ""));
        x.serve();
        x.letter('q');
        x.letter(126);
        due("31 letters of the page", x.digest(), byCalls(x, "q~"));
        due("31 changes nothing", x.digest(), byCalls(x, "q~"));
        RingArm y = new RingArm();
        y.letter(5);
        long h = 31L * 1291 + 5;
        for (int what = 0; what <= 12; what++) {
            h = 31 * h + y.count(what);
        }
        due("31 without a plate", y.digest(), h);
    }

    private static long byCalls(RingArm x, String page) {
        java.util.List<Integer> told = new java.util.ArrayList<>();
        for (int r = 0; r < x.count(0); r++) {
            for (int what = 0; what <= 4; what++) {
                told.add(x.ring(r, what));
            }
            told.add(x.apart(r, 5, 0));
            told.add(x.apart(r, 5, 1));
        }
        for (int n = 0; n < x.count(5); n++) {
            for (int what = 0; what <= 3; what++) {
                told.add(x.asked(n, what));
            }
        }
        told.add(x.as(0));
        told.add(x.next());
        for (int kind = 0; kind < 5; kind++) {
            told.add(x.run(kind, 0));
            told.add(x.run(kind, 1));
        }
        for (int what = 0; what <= 2; what++) {
            told.add(x.behind(0, 1, what));
        }
        told.add(x.lay(0));
        for (int what = 10; what <= 15; what++) {
            told.add(x.lay(what));
        }
        told.add(x.steps());
        told.add(x.trial());
        for (int i = 0; i < page.length(); i++) {
            told.add((int) page.charAt(i));
        }
        for (int what = 0; what <= 12; what++) {
            told.add(x.count(what));
        }
        long h = 1291;
        for (int number : told) {
            h = 31 * h + number;
        }
        return h;
    }
}
