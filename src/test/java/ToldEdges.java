import java.math.BigInteger;
import java.util.function.Supplier;
import java.util.function.ToLongFunction;

/** Promises 28 to 31: what is told of all; images, and that a refused call changes nothing. */
final class ToldEdges {
    private static final int UNKNOWN = Edges.UNKNOWN, OUTSIDE = Edges.OUTSIDE;
    private static final int STATE = Edges.STATE, FULL = Edges.FULL;
    private static final String FOUR = "ca8b6c4d;32;f", TEN = "2a3b4c6d8ecf2x3w4v6u;32;";

    private final Edges e;

    ToldEdges(Edges edges) {
        e = edges;
    }

    void test() {
        imageKeeps();
        imageKeepsNothingElse();
        imageIsNotChanged();
        image();
        restore();
        restoreRefused();
        count();
        countAtTheMost();
        digest();
        e.of(0, "Refusals, of several the first as told by each call: UNKNOWN (a number names nothing), OUTSIDE (it is "
            + "not as told), STATE (as told), FULL; they change nothing.");
        refusedWithoutPlate();
        refusedOutsideWithoutPlate();
        refusedNumbers(ToldEdges::plain);
        refusedNumbers(ToldEdges::rich);
        refusedNumbers(ToldEdges::stuffed);
        refusedOutside(ToldEdges::plain);
        refusedOutside(ToldEdges::rich);
        refusedOutside(ToldEdges::stuffed);
        refusedForState();
        refusedForFull();
    }

    // ---- objects

    /** No plate, and letters on the page that are none. */
    private static RingArm none() {
        RingArm x = new RingArm();
        Check.write(x, "2a2a;");
        return x;
    }

    private static RingArm plain() {
        return Check.plate(FOUR);
    }

    /** Something of all there is, the arm going outward, and an image of how it was before. */
    private static RingArm rich() {
        RingArm x = Check.plate(TEN + "s");
        x.weigh(2, 7);
        x.ask(9, 1);
        x.image();
        x.serve();
        x.ask(4, 2);
        x.serve();
        x.ask(0, 1);
        x.pass(3);
        x.ask(7, 2);
        x.ask(4, 0);
        x.weigh(0, 3);
        x.weigh(3, 9);
        x.see(2, 9);
        x.see(1, 5);
        x.skew(1, 20);
        x.gear(1, 4);
        x.least(10);
        Check.write(x, "2a3");
        return x;
    }

    /** As much as there can be: seven asked, six seen, 28 letters, least() done 16 times. */
    private static RingArm stuffed() {
        RingArm x = rich();
        for (int n = 0; n < 4; n++) {
            x.ask(n, 0);
            x.see(3, 13);
        }
        for (int n = 0; n < 15; n++) {
            x.least(0);
        }
        Check.write(x, "z".repeat(25));
        return x;
    }

    /** All that calls tell, what is kept in the image, and how it goes on; the object is used up by it. */
    private static String toldOf(RingArm x) {
        StringBuilder told = new StringBuilder();
        told.append(x.fault()).append(' ');
        for (int part = 0; part < 2; part++) {
            told.append(x.digest()).append(' ');
            for (int thing = 0; thing < 6; thing++) {
                told.append(x.weigh(thing, 1)).append(' ');
            }
            told.append(x.trial()).append(' ').append(x.days(9, 9, 1)).append(' ');
            while (x.count(5) > 0 && x.count(2) < 90000) {
                told.append(x.serve()).append(' ').append(x.count(4)).append(' ');
            }
            told.append(x.restore()).append(' ');
        }
        return told.append(x.image()).append(' ').append(x.blank()).toString();
    }

    // ---- images

    private static void change(RingArm x, int which) {
        switch (which) {
            case 0 -> x.choose(4);
            case 1 -> x.skew(1, 3);
            case 2 -> x.gear(8, 4);
            case 3 -> x.gear(1, 7);
            case 4 -> x.pass(99);
            case 5 -> x.serve();
            case 6 -> x.read(2);
            case 7 -> x.ask(8, 3);
            case 8 -> x.weigh(0, 8);
            case 9 -> x.weigh(5, 1);
            case 10 -> x.see(1, 5);
            case 11 -> x.forget();
            case 12 -> {
                x.forget();
                x.see(9, 84);
                x.see(8, 0);
            }
            default -> {
                x.serve();
                x.serve();
                x.serve();
            }
        }
    }

    private void imageKeeps() {
        e.of(0, "An IMAGE keeps THE POLICY, OFFSETS, START, STEP, the TICK, where the arm is and how it goes, what is "
            + "ASKED since when, WEIGHTS, SEEN. ");
        for (int which = 0; which <= 13; which++) {
            RingArm x = rich();
            x.image();
            long before = x.digest();
            change(x, which);
            e.isTrue("change " + which + " changes something", x.digest() != before);
            x.restore();
            e.due("change " + which + " is gone", x.digest(), before);
            RingArm y = rich();
            y.image();
            e.isTrue("all goes on as if nothing had been, " + which, toldOf(x).equals(toldOf(y)));
        }
        RingArm x = rich();
        x.image();
        e.due("outward", x.count(4), 0);
        for (int n = 0; n < 3; n++) {
            x.serve();
        }
        e.due("inward", x.count(4), 1);
        x.restore();
        e.due("outward again", x.count(4), 0);
        x.weigh(0, 0);
        x.restore();
        e.due("the weight is there again", x.weigh(0, 0), 3);
    }

    private void imageKeepsNothingElse() {
        RingArm x = rich();
        x.image();
        x.blank();
        Check.write(x, "4x");
        x.least(0);
        x.restore();
        e.due("the page is not in it", x.count(10), 2);
        e.due("the page is not in it", x.fault(), 2);
        e.due("how often least() was done is not in it", x.count(12), 2);
        e.due("nor how often a plate was read", x.count(11), 1);
    }

    private void imageIsNotChanged() {
        for (int which = 0; which <= 13; which++) {
            RingArm x = rich();
            x.image();
            x.restore();
            long before = x.digest();
            change(x, which);
            x.restore();
            e.due("what is changed behind a restore, " + which, x.digest(), before);
            x.restore();
            e.due("an image goes on to be kept", x.digest(), before);
        }
    }

    private void image() {
        e.of(28, "An IMAGE is kept (one; the latest): the TICK. ");
        RingArm x = plain();
        e.due("image() at once", x.image(), 0);
        x.pass(9);
        e.due("image()", x.image(), 9);
        long before = x.digest();
        x.image();
        e.due("changes nothing", x.digest(), before);
        x.pass(9);
        e.due("the latest", x.restore(), 9);
        e.due("one: none is below it", x.restore(), 9);
        e.of(28, "STATE: no PLATE.");
        RingArm y = new RingArm();
        e.due("no plate", y.image(), STATE);
        Check.write(y, FOUR);
        y.plate();
        e.due("none was kept by that", y.restore(), STATE);
    }

    private void restore() {
        e.of(29, "It goes on from the IMAGE: the TICK. ");
        RingArm x = plain();
        x.pass(5);
        x.ask(1, 1);
        x.image();
        int done = x.serve();
        e.due("restore()", x.restore(), 5);
        e.due("tick", x.count(2), 5);
        e.due("it goes on", x.serve(), done);
        e.due("restore() again", x.restore(), 5);
        e.due("it goes on again", x.serve(), done);
    }

    private void restoreRefused() {
        e.of(29, "STATE: none was kept, or there is another PLATE since.");
        e.due("no plate", new RingArm().restore(), STATE);
        RingArm x = plain();
        e.due("none was kept", x.restore(), STATE);
        x.image();
        Check.write(x, FOUR);
        e.due("not read yet", x.restore(), 0);
        x.plate();
        e.due("another plate since, even of the same text", x.restore(), STATE);
        x.pass(4);
        e.due("kept anew", x.image(), 4);
        x.pass(4);
        e.due("kept anew", x.restore(), 4);
        x.letter('z');
        e.due("no plate is read", x.plate(), STATE);
        e.due("a refused plate() is no other plate", x.restore(), 4);
    }

    // ---- counts

    private void count() {
        e.of(30, "How many: 0 RINGS, 1 PLACES of all, 2 the TICK, 3 the RING where the arm is, 4 how it goes (1 inward, "
            + "0 outward, or no PLATE), 5 how many are ASKED, 6 START, 7 STEP (0 for both: no PLATE), 8 THINGS, 9 what "
            + "is SEEN, 10 letters of THE PAGE, 11 how often a PLATE was read, 12 how often least() was done. ");
        RingArm none = none();
        for (int what = 0; what <= 12; what++) {
            e.due("no plate: count(" + what + ")", none.count(what), what == 10 ? 5 : 0);
        }
        RingArm x = rich();
        e.due("rings", x.count(0), 10);
        e.due("places", x.count(1), 50);
        e.due("the arm", x.count(3), 4);
        e.due("outward", x.count(4), 0);
        int[] from5 = {3, 1, 4, 4, 2, 3, 1, 1};
        for (int what = 5; what <= 12; what++) {
            e.due("count(" + what + ")", x.count(what), from5[what - 5]);
        }
        // ring 9: there at 21, place 1 begins at 24, done 28; ring 4: there at 41, place 2 begins at 58, done 61
        e.due("tick", x.count(2), 61 + 3);
        e.of(30, "OUTSIDE.");
        e.range("count", ToldEdges::plain, (y, what) -> y.count(what), 0, 12, OUTSIDE);
        e.range("count without a plate", ToldEdges::none, (y, what) -> y.count(what), 0, 12, OUTSIDE);
    }

    private void countAtTheMost() {
        RingArm x = Check.plate("ca".repeat(10) + ";99;o");
        e.due("twelve places on each", x.count(1), 120);
        RingArm y = Check.plate("2x".repeat(4) + ";01;o");
        e.due("two places on each", y.count(1), 8);
        e.due("START 0", y.count(6), 0);
        RingArm z = stuffed();
        e.due("asked", z.count(5), 7);
        e.due("seen", z.count(9), 6);
        e.due("letters", z.count(10), 28);
        e.due("least", z.count(12), 16);
        RingArm often = new RingArm();
        for (int plates = 1; plates <= 30; plates++) {
            Check.write(often, FOUR);
            often.plate();
            e.due("plates", often.count(11), plates);
        }
    }

    private void digest() {
        e.of(31, "h is 1291, then for each of these numbers, in order, 31 times h, and it (as longs, wrapping): of each "
            + "RING what ring() tells for 0 to 4, what apart() tells of 5 TICKS for 0 and 1; of each that is ASKED what "
            + "asked() tells for 0 to 3; with a PLATE the KIND of THE POLICY, what next() tells, what run() tells of "
            + "each KIND for 0 and 1, behind() of 0 and 1 for 0 to 2, lay() for 0 and 10 to 15, steps(), trial(); "
            + "letters of THE PAGE; what count() tells for 0 to 12.");
        digestIs(new RingArm(), "");
        digestIs(none(), "2a2a;");
        digestIs(plain(), "");
        digestIs(rich(), "2a3");
        digestIs(stuffed(), "2a3" + "z".repeat(25));
        RingArm x = rich();
        x.restore();
        digestIs(x, "2a3");
    }

    private void digestIs(RingArm x, String page) {
        Told told = new Told();
        for (int r = 0; r < x.count(0); r++) {
            told.add(x.ring(r, 0), x.ring(r, 1), x.ring(r, 2), x.ring(r, 3), x.ring(r, 4));
            told.add(x.apart(r, 5, 0), x.apart(r, 5, 1));
        }
        for (int n = 0; n < x.count(5); n++) {
            told.add(x.asked(n, 0), x.asked(n, 1), x.asked(n, 2), x.asked(n, 3));
        }
        if (x.count(0) > 0) {
            told.add(x.as(0), x.next());
            for (int kind = 0; kind < 5; kind++) {
                told.add(x.run(kind, 0), x.run(kind, 1));
            }
            told.add(x.behind(0, 1, 0), x.behind(0, 1, 1), x.behind(0, 1, 2));
            told.add(x.lay(0), x.lay(10), x.lay(11), x.lay(12), x.lay(13), x.lay(14), x.lay(15));
            told.add(x.steps(), x.trial());
        }
        for (char letter : page.toCharArray()) {
            told.add(letter);
        }
        for (int what = 0; what <= 12; what++) {
            told.add(x.count(what));
        }
        e.due("digest()", x.digest(), told.h.longValue());
        e.due("digest() again: it changes nothing", x.digest(), told.h.longValue());
    }

    /** The digest's sum without an end, so that the wrapping is left to the last step. */
    private static final class Told {
        private BigInteger h = BigInteger.valueOf(1291);

        void add(int... numbers) {
            for (int number : numbers) {
                h = h.multiply(BigInteger.valueOf(31)).add(BigInteger.valueOf(number));
            }
        }
    }

    // ---- refusals

    /** A call is refused as it is due, and all is told as of an object that it was not made on. */
    private void refused(String call, Supplier<RingArm> made, ToLongFunction<RingArm> on, int refusal) {
        RingArm x = made.get();
        e.due(call, on.applyAsLong(x), refusal);
        e.isTrue(call + " changes nothing", toldOf(x).equals(toldOf(made.get())));
    }

    private void refusedWithoutPlate() {
        Supplier<RingArm> none = ToldEdges::none;
        refused("plate()", none, x -> x.plate(), STATE);
        refused("ring()", none, x -> x.ring(0, 0), UNKNOWN);
        refused("asked()", none, x -> x.asked(0, 0), UNKNOWN);
        refused("as()", none, x -> x.as(0), STATE);
        refused("next()", none, x -> x.next(), STATE);
        refused("ask()", none, x -> x.ask(0, 0), UNKNOWN);
        refused("serve()", none, x -> x.serve(), STATE);
        refused("read()", none, x -> x.read(0), UNKNOWN);
        refused("pass()", none, x -> x.pass(1), STATE);
        refused("choose()", none, x -> x.choose(1), STATE);
        refused("skew()", none, x -> x.skew(0, 1), UNKNOWN);
        refused("gear()", none, x -> x.gear(1, 1), STATE);
        refused("run()", none, x -> x.run(0, 0), STATE);
        refused("least()", none, x -> x.least(0), STATE);
        refused("weigh()", none, x -> x.weigh(0, 1), UNKNOWN);
        refused("lay()", none, x -> x.lay(0), STATE);
        refused("behind()", none, x -> x.behind(0, 1, 0), UNKNOWN);
        refused("apart()", none, x -> x.apart(0, 0, 0), UNKNOWN);
        refused("see()", none, x -> x.see(1, 1), STATE);
        refused("steps()", none, x -> x.steps(), STATE);
        refused("trial()", none, x -> x.trial(), STATE);
        refused("days()", none, x -> x.days(1, 1, 0), STATE);
        refused("image()", none, x -> x.image(), STATE);
        refused("restore()", none, x -> x.restore(), STATE);
    }

    private void refusedOutsideWithoutPlate() {
        Supplier<RingArm> none = ToldEdges::none;
        refused("as(5)", none, x -> x.as(5), OUTSIDE);
        refused("pass(0)", none, x -> x.pass(0), OUTSIDE);
        refused("choose(5)", none, x -> x.choose(5), OUTSIDE);
        refused("gear(10, 1)", none, x -> x.gear(10, 1), OUTSIDE);
        refused("run(5, 0)", none, x -> x.run(5, 0), OUTSIDE);
        refused("least(9)", none, x -> x.least(9), OUTSIDE);
        refused("lay(16)", none, x -> x.lay(16), OUTSIDE);
        refused("see(0, 0)", none, x -> x.see(0, 0), OUTSIDE);
        refused("days(61, 0, 0)", none, x -> x.days(61, 0, 0), OUTSIDE);
        refused("count(13)", none, x -> x.count(13), OUTSIDE);
        refused("letter(0)", none, x -> x.letter(0), OUTSIDE);
        refused("skew(0, 24)", none, x -> x.skew(0, 24), UNKNOWN);
        refused("weigh(0, 10)", none, x -> x.weigh(0, 10), UNKNOWN);
        refused("behind(0, 1, 3)", none, x -> x.behind(0, 1, 3), UNKNOWN);
        refused("apart(0, 24, 2)", none, x -> x.apart(0, 24, 2), UNKNOWN);
    }

    /** A number that names nothing, alone and with another one that is not as told. */
    private void refusedNumbers(Supplier<RingArm> made) {
        int rings = made.get().count(0);
        int asked = made.get().count(5);
        int things = Math.min(6, rings);
        for (int beside : new int[] {0, 99}) {
            refused("ring", made, x -> x.ring(rings, beside), UNKNOWN);
            refused("asked", made, x -> x.asked(asked, beside), UNKNOWN);
            refused("ask", made, x -> x.ask(rings, beside), UNKNOWN);
            refused("ask", made, x -> x.ask(-1, beside), UNKNOWN);
            refused("skew", made, x -> x.skew(rings, beside), UNKNOWN);
            refused("weigh", made, x -> x.weigh(things, beside), UNKNOWN);
            refused("weigh", made, x -> x.weigh(-1, beside), UNKNOWN);
            refused("behind", made, x -> x.behind(rings, 0, beside), UNKNOWN);
            refused("behind", made, x -> x.behind(0, rings, beside), UNKNOWN);
            refused("behind", made, x -> x.behind(1, 1, beside), UNKNOWN);
            refused("apart", made, x -> x.apart(rings, beside, 0), UNKNOWN);
            refused("apart", made, x -> x.apart(-1, 0, beside), UNKNOWN);
        }
        refused("read", made, x -> x.read(asked), UNKNOWN);
        refused("read", made, x -> x.read(-1), UNKNOWN);
        refused("ask", made, x -> x.ask(0, x.ring(0, 0)), UNKNOWN);
        refused("ask", made, x -> x.ask(rings - 1, -1), UNKNOWN);
    }

    private void refusedOutside(Supplier<RingArm> made) {
        for (int wrong : new int[] {-1, 127, Edges.LOW, Edges.HIGH}) {
            refused("letter", made, x -> x.letter(wrong), OUTSIDE);
            refused("ring", made, x -> x.ring(0, wrong), OUTSIDE);
            refused("as", made, x -> x.as(wrong), OUTSIDE);
            refused("pass", made, x -> x.pass(wrong), OUTSIDE);
            refused("choose", made, x -> x.choose(wrong), OUTSIDE);
            refused("skew", made, x -> x.skew(0, wrong), OUTSIDE);
            refused("gear, start", made, x -> x.gear(wrong, 5), OUTSIDE);
            refused("gear, step", made, x -> x.gear(5, wrong), OUTSIDE);
            refused("run, kind", made, x -> x.run(wrong, 0), OUTSIDE);
            refused("run, what", made, x -> x.run(0, wrong), OUTSIDE);
            refused("least", made, x -> x.least(wrong), OUTSIDE);
            refused("weigh", made, x -> x.weigh(0, wrong), OUTSIDE);
            refused("lay", made, x -> x.lay(wrong), OUTSIDE);
            refused("behind", made, x -> x.behind(0, 1, wrong), OUTSIDE);
            refused("apart, think", made, x -> x.apart(0, wrong, 0), OUTSIDE);
            refused("apart, what", made, x -> x.apart(0, 0, wrong), OUTSIDE);
            refused("see, rings", made, x -> x.see(wrong, 9), OUTSIDE);
            refused("see, ticks", made, x -> x.see(9, wrong), OUTSIDE);
            refused("days, times", made, x -> x.days(wrong, 0, 0), OUTSIDE);
            refused("days, what", made, x -> x.days(1, 0, wrong), OUTSIDE);
            refused("count", made, x -> x.count(wrong), OUTSIDE);
        }
        refused("days, seed", made, x -> x.days(1, -1, 0), OUTSIDE);
    }

    private void refusedForState() {
        refused("plate(), an empty page", ToldEdges::plain, x -> x.plate(), STATE);
        refused("plate(), begun", ToldEdges::rich, x -> x.plate(), STATE);
        refused("plate(), full", ToldEdges::stuffed, x -> x.plate(), STATE);
        refused("serve(), nothing asked", ToldEdges::plain, x -> x.serve(), STATE);
        refused("least(), sixteen times", ToldEdges::stuffed, x -> x.least(0), STATE);
        refused("restore(), none kept", ToldEdges::plain, x -> x.restore(), STATE);
        refused("asked, what", ToldEdges::rich, x -> x.asked(0, 4), OUTSIDE);
        refused("asked, what", ToldEdges::stuffed, x -> x.asked(6, -1), OUTSIDE);
    }

    private void refusedForFull() {
        refused("letter()", ToldEdges::stuffed, x -> x.letter('a'), FULL);
        refused("ask()", ToldEdges::stuffed, x -> x.ask(0, 0), FULL);
        refused("see()", ToldEdges::stuffed, x -> x.see(1, 5), FULL);
        Supplier<RingArm> late = ToldEdges::late;
        refused("serve()", late, x -> x.serve(), FULL);
        refused("read()", late, x -> x.read(1), FULL);
        refused("pass()", late, x -> x.pass(2), FULL);
        refused("pass(), OUTSIDE first", late, x -> x.pass(100), OUTSIDE);
        refused("read(), UNKNOWN first", late, x -> x.read(2), UNKNOWN);
    }

    private static RingArm late() {
        RingArm x = DoneEdges.atTick(99999);
        x.ask(0, 0);
        x.ask(3, 0);
        return x;
    }
}
