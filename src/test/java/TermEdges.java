/** The plate as a text, and the terms: turning, going, what is asked, which is next. */
final class TermEdges {
    private static final int NONE = Edges.NONE, UNKNOWN = Edges.UNKNOWN, STATE = Edges.STATE, FULL = Edges.FULL;
    private static final String SIGNS = "23468c", OFFSETS = "abcdefghijklmnopqrstuvwx", KINDS = "fnsro";
    /** Ten rings of two places, 12 ticks each, all begun at 0; START 0, STEP 1. */
    private static final String TEN = "2a".repeat(10) + ";01;";

    private final Edges e;

    TermEdges(Edges edges) {
        e = edges;
    }

    void test() {
        howManyRings();
        signsOfRings();
        signsBehindRings();
        lastCall();
        atFirst();
        kinds();
        turning();
        beginning();
        going();
        waiting();
        asked();
        nextByFirst();
        nextByNearest();
        nextBySoonest();
        nextBySweep();
        sweepAtTheEnds();
        noOtherKindTurns();
        nextByRound();
        likeOnes();
        oneLessByNumber();
    }

    // ---- the plate as a text

    private void howManyRings() {
        e.of(0, "A PLATE is a text: four to ten RINGS (numbered from 0, the outer one), ");
        for (int rings = 0; rings <= 11; rings++) {
            RingArm x = new RingArm();
            Check.write(x, "2a".repeat(rings) + ";01;f");
            e.due("plate() of " + rings + " rings", x.plate(), rings < 4 || rings > 10 ? STATE : rings);
        }
        RingArm x = Check.plate("2a3b4c6d8ecf2g3h4i6j;01;f");
        e.due("ring 0 is the first", x.ring(0, 1), 0);
        e.due("ring 9 is the last", x.ring(9, 1), 9);
        e.due("no ring 10", x.ring(10, 1), UNKNOWN);
        e.due("no ring -1", x.ring(-1, 1), UNKNOWN);
        RingArm y = Check.plate("2a3b4c6d;01;f");
        e.due("ring 3 is the last", y.ring(3, 1), 3);
        e.due("no ring 4", y.ring(4, 1), UNKNOWN);
    }

    private void signsOfRings() {
        e.of(0, "each two signs, one right behind the other: ");
        faultIs("2a 2a2a2a;01;f", 2);
        faultIs("2a2a2a2;01;f", 7);
        faultIs("2aa", 2);
        faultIs("22", 1);
        e.of(0, "how many PLACES it has (\"2\", \"3\", \"4\", \"6\", \"8\", or \"c\" for 12) ");
        for (int ring = 0; ring <= 10; ring++) {
            eachSignBehind("2a".repeat(ring), (ring < 10 ? SIGNS : "") + (ring >= 4 ? ";" : ""));
        }
        int[] places = {2, 3, 4, 6, 8, 12};
        RingArm x = Check.plate("2a3a4a6a8aca;01;f");
        for (int ring = 0; ring < 6; ring++) {
            e.due("places of ring " + ring, x.ring(ring, 0), places[ring]);
        }
        e.of(0, "and its OFFSET (\"a\" 0, \"b\" 1, and on, to \"x\" 23); ");
        for (int ring = 0; ring < 10; ring++) {
            eachSignBehind("2a".repeat(ring) + "c", OFFSETS);
        }
        for (int offset = 0; offset < 24; offset++) {
            RingArm y = Check.plate("2a2a2a2" + OFFSETS.charAt(offset) + ";01;f");
            e.due("offset of " + OFFSETS.charAt(offset), y.ring(3, 1), offset);
        }
    }

    private void signsBehindRings() {
        e.of(0, "\";\"; two digits, START (0 to 9) and STEP (1 to 9); \";\"; a letter, THE POLICY.");
        for (int rings = 4; rings <= 10; rings += 6) {
            String text = "2a".repeat(rings) + ";";
            eachSignBehind(text, "0123456789");
            eachSignBehind(text + "0", "123456789");
            eachSignBehind(text + "9", "123456789");
            eachSignBehind(text + "01", ";");
            eachSignBehind(text + "99", ";");
            eachSignBehind(text + "01;", KINDS);
            eachSignBehind(text + "01;o", "");
        }
        for (int start = 0; start <= 9; start++) {
            for (int step = 1; step <= 9; step++) {
                RingArm x = Check.plate("2a2a2a2a;" + start + step + ";f");
                e.due("START of " + start + step, x.count(6), start);
                e.due("STEP of " + start + step, x.count(7), step);
            }
        }
    }

    /** Every code there is, behind a good text. */
    private void eachSignBehind(String text, String taken) {
        for (int code = 1; code <= 126; code++) {
            RingArm x = new RingArm();
            Check.write(x, text);
            x.letter(code);
            boolean good = taken.indexOf(code) >= 0;
            e.due("fault() of " + text + (char) code, x.fault(), text.length() + (good ? 1 : 0));
        }
    }

    private void faultIs(String text, int place) {
        RingArm x = new RingArm();
        Check.write(x, text);
        e.due("fault() of " + text, x.fault(), place);
        e.due("plate() of " + text, x.plate(), STATE);
    }

    private void lastCall() {
        e.of(0, "An object is used for at most 512 calls after it has been made; what later calls answer is free.");
        RingArm x = Check.plate("2a2a2a2a;01;f");
        for (int call = 15; call < 512; call++) {
            x.pass(99);
        }
        e.due("the 512th call", x.count(2), 497 * 99);
    }

    // ---- the terms

    private void atFirst() {
        e.of(0, "At first there is none; then it is TICK 0, the arm is at RING 0 and goes inward (by greater numbers), "
            + "nothing is ASKED. ");
        RingArm x = new RingArm();
        e.due("no rings", x.count(0), 0);
        e.due("no way to go", x.count(4), 0);
        Check.write(x, TEN + "s");
        x.plate();
        e.due("tick", x.count(2), 0);
        e.due("the arm", x.count(3), 0);
        e.due("inward", x.count(4), 1);
        e.due("asked", x.count(5), 0);
        x.ask(5, 0);
        x.read(0);
        x.ask(4, 0);
        x.ask(6, 0);
        e.due("inward is by greater numbers", x.asked(x.next(), 0), 6);
    }

    private void kinds() {
        e.of(0, "KINDS of POLICIES are told by the letter: 0 FIRST \"f\", 1 NEAREST \"n\", 2 SWEEP \"s\", "
            + "3 ROUND \"r\", 4 SOONEST \"o\". ");
        for (int kind = 0; kind < 5; kind++) {
            e.due("kind of " + KINDS.charAt(kind), Check.plate(TEN + KINDS.charAt(kind)).choose(0), kind);
        }
        e.of(0, "All are FIRST; a ROUND is a SWEEP, too, a SOONEST a NEAREST. ");
        String[] is = {"f", "fn", "fs", "fsr", "fno"};
        for (int kind = 0; kind < 5; kind++) {
            RingArm x = Check.plate(TEN + KINDS.charAt(kind));
            for (int as = 0; as < 5; as++) {
                boolean such = is[kind].indexOf(KINDS.charAt(as)) >= 0;
                e.due("as(" + as + ") of kind " + kind, x.as(as), such ? kind : NONE);
            }
        }
    }

    private void turning() {
        e.of(0, "The plate turns once in 24 TICKS. ");
        RingArm x = Check.plate("cacacaca;01;f");
        x.ask(0, 0);
        for (int tick = 0; tick <= 49; tick++) {
            int due = tick == 0 ? 2 : tick <= 24 ? 26 : tick <= 48 ? 50 : 74;
            e.due("done, asked at " + tick, x.asked(0, 3), due);
            x.pass(1);
        }
        e.of(0, "Each PLACE of a RING (numbered from 0) lasts 24 by how many there are; ");
        int[] lasts = {12, 8, 6, 4, 3, 2};
        RingArm y = Check.plate("2a3a4a6a8aca;01;f");
        for (int ring = 0; ring < 6; ring++) {
            e.due("lasts on ring " + ring, y.ring(ring, 2), lasts[ring]);
            e.due("the last place of ring " + ring, y.ask(ring, 24 / lasts[ring] - 1), 1);
            e.due("no place behind it", y.ask(ring, 24 / lasts[ring]), UNKNOWN);
            e.due("no place ahead of 0", y.ask(ring, -1), UNKNOWN);
            // the arm goes from one ring to the next and is there long ahead of it
            e.due("done as the plate has turned", y.read(0), 24 * (ring + 1));
        }
    }

    private void beginning() {
        e.of(0, "PLACE 0 begins to come by at each TICK that by 24 leaves the OFFSET, the others behind it by number. ");
        int[] places = {0, 1, 6, 11};
        for (int offset = 0; offset < 24; offset++) {
            RingArm x = Check.plate("c" + OFFSETS.charAt(offset) + "2a2a2a;99;f");
            for (int place : places) {
                x.ask(0, place);
            }
            for (int tick = 0; tick < 50; tick++) {
                for (int n = 0; n < places.length; n++) {
                    int begins = tick;
                    while (begins % 24 != (offset + 2 * places[n]) % 24) {
                        begins++;
                    }
                    e.due("offset " + offset + ", place " + places[n] + " at " + tick, x.asked(n, 3), begins + 2);
                }
                x.pass(1);
            }
        }
    }

    private void going() {
        e.of(0, "From a RING to another one the arm takes START, and STEP for each RING between (it comes to the next "
            + "one by one STEP); to its own none. ");
        for (int from : new int[] {0, 4, 9}) {
            RingArm x = Check.plate(TEN + "f");
            x.ask(from, 0);
            x.read(0);
            for (int start : new int[] {0, 9}) {
                for (int step : new int[] {1, 9}) {
                    x.gear(start, step);
                    for (int to = 0; to < 10; to++) {
                        int due = to == from ? 0 : start + step * Math.abs(to - from);
                        e.due("from " + from + " to " + to + " by " + start + step, x.ring(to, 4), due);
                    }
                }
            }
        }
    }

    private void waiting() {
        e.of(0, "A PLACE is DONE (read), if the arm goes to its RING, waits there till it begins to come by (not at "
            + "all, if it begins just then), and for as long as it lasts.");
        // to ring 1 in 2 ticks; places last 2
        RingArm x = Check.plate("cacacaca;11;f");
        x.ask(1, 0);
        x.skew(1, 3);
        e.due("a tick to wait", x.asked(0, 3), 5);
        x.skew(1, 2);
        e.due("just then", x.asked(0, 3), 4);
        x.skew(1, 1);
        e.due("a tick too late", x.asked(0, 3), 27);
        e.due("so it is done", x.read(0), 27);
        e.due("it is that tick then", x.count(2), 27);
        e.due("the arm is there", x.count(3), 1);
        x.ask(1, 1);
        // place 1 of ring 1 begins at 3, 27
        e.due("on its own ring, just then", x.asked(0, 3), 29);
    }

    private void asked() {
        e.of(0, "ASKED are PLACES (seven at most, numbered from 0 as they wait, the first one asked is 0; one may be "
            + "ASKED twice). ");
        RingArm x = Check.plate("cacacaca;11;f");
        for (int n = 0; n < 7; n++) {
            e.due("asked", x.ask(0, n), n + 1);
        }
        e.due("not eight", x.ask(0, 7), FULL);
        for (int n = 0; n < 7; n++) {
            e.due("number " + n, x.asked(n, 1), n);
        }
        e.due("no number 7", x.asked(7, 1), UNKNOWN);
        RingArm y = Check.plate("cacacaca;11;f");
        for (int n = 0; n < 7; n++) {
            e.due("the same one again", y.ask(2, 5), n + 1);
        }
        y.read(0);
        e.due("six of them are asked yet", y.count(5), 6);
    }

    /** A plate of ten rings with the arm at one of them, going inward. */
    private static RingArm at(int ring, char policy) {
        RingArm x = Check.plate(TEN + policy);
        x.ask(ring, 0);
        x.read(0);
        return x;
    }

    private static void askAll(RingArm x, int... rings) {
        for (int ring : rings) {
            x.ask(ring, 0);
        }
    }

    private void nextIs(String what, RingArm x, int number) {
        e.due("next(): " + what, x.next(), number);
    }

    private void nextByFirst() {
        e.of(0, "Which is NEXT, of those that are ASKED: by FIRST the least number; ");
        RingArm x = at(5, 'f');
        nextIs("nothing is asked", x, NONE);
        askAll(x, 9);
        nextIs("one", x, 0);
        askAll(x, 5, 4, 6, 0, 5, 5);
        nextIs("seven", x, 0);
        x.read(0);
        nextIs("the one behind it", x, 0);
        e.due("which is on ring", x.asked(0, 0), 5);
    }

    private void nextByNearest() {
        e.of(0, "by a NEAREST that one whose RING is the fewest RINGS away; ");
        RingArm x = at(5, 'n');
        nextIs("nothing is asked", x, NONE);
        askAll(x, 9, 0);
        nextIs("four away ahead of five", x, 0);
        askAll(x, 2);
        nextIs("three away outward", x, 2);
        askAll(x, 7);
        nextIs("two away inward", x, 3);
        askAll(x, 4);
        nextIs("one away", x, 4);
        askAll(x, 5);
        nextIs("none away", x, 5);
        RingArm y = at(9, 'n');
        askAll(y, 0, 1);
        nextIs("from the last ring", y, 1);
    }

    private void nextBySoonest() {
        e.of(0, "by a SOONEST that one that would be DONE soonest; ");
        RingArm x = Check.plate("cacacaca;11;o");
        nextIs("nothing is asked", x, NONE);
        x.ask(0, 11);
        x.ask(3, 2);
        // ring 0: begins 22, done 24; ring 3: there at 4, begins 4, done 6
        nextIs("far, but soon", x, 1);
        x.ask(0, 2);
        nextIs("like ones", x, 1);
        x.skew(3, 1);
        nextIs("a tick later", x, 2);
        x.skew(3, 0);
        x.pass(1);
        // ring 0: begins 4, done 6; ring 3: there at 5, a tick too late
        nextIs("around once more", x, 2);
        RingArm y = Check.plate("2acacaca;01;o");
        y.ask(0, 0);
        y.ask(1, 4);
        // ring 0 begins at 0 and lasts till 12; ring 1 begins at 8 and lasts till 10
        nextIs("done, not begun, soonest", y, 1);
    }

    private void nextBySweep() {
        e.of(0, "by a SWEEP the nearest of those on the RING where the arm is or farther on as it goes, if there are "
            + "any, else it turns about (when that one is DONE; it goes so from then on) and that is so of the others; ");
        RingArm x = at(5, 's');
        nextIs("nothing is asked", x, NONE);
        askAll(x, 4, 3);
        nextIs("none farther on: the nearest of the others", x, 0);
        askAll(x, 9);
        nextIs("one farther on, however far", x, 2);
        askAll(x, 8);
        nextIs("the nearest farther on", x, 3);
        askAll(x, 5);
        nextIs("where the arm is", x, 4);
        x.serve();
        x.serve();
        x.serve();
        e.due("the arm is at", x.count(3), 9);
        nextIs("it will turn about", x, 0);
        x.run(2, 0);
        x.least(0);
        x.days(9, 9, 0);
        e.due("not ahead of when that one is done", x.count(4), 1);
        x.serve();
        e.due("when that one is done", x.count(4), 0);
        e.due("the arm is at", x.count(3), 4);
        askAll(x, 5, 4);
        nextIs("where the arm is, outward", x, 2);
        x.serve();
        nextIs("farther on is outward now", x, 0);
        x.serve();
        e.due("it goes so from then on", x.count(4), 0);
        x.serve();
        e.due("about once more", x.count(4), 1);
    }

    private void sweepAtTheEnds() {
        RingArm x = at(9, 's');
        askAll(x, 8, 9);
        nextIs("on the last ring, inward", x, 1);
        x.serve();
        e.due("inward yet", x.count(4), 1);
        x.serve();
        e.due("outward from the last ring", x.count(4), 0);
        askAll(x, 0);
        x.serve();
        askAll(x, 1, 0);
        nextIs("on ring 0, outward", x, 1);
        x.serve();
        e.due("outward yet", x.count(4), 0);
        x.choose(3);
        x.serve();
        e.due("another kind does not turn it", x.count(4), 0);
        askAll(x, 0);
        x.serve();
        e.due("nor does a ROUND that goes around", x.count(4), 0);
    }

    private void noOtherKindTurns() {
        for (int kind : new int[] {0, 1, 3, 4}) {
            RingArm x = at(5, 's');
            x.choose(kind);
            serveEach("inward, kind " + kind, x, 1);
            x.choose(2);
            askAll(x, 0);
            x.serve();
            e.due("a SWEEP turned it", x.count(4), 0);
            x.choose(kind);
            serveEach("outward, kind " + kind, x, 0);
        }
    }

    /** The arm goes inward, stays, and goes outward; how it goes must stay. */
    private void serveEach(String what, RingArm x, int goes) {
        for (int ring : new int[] {6, 6, 3}) {
            askAll(x, ring);
            x.serve();
            e.due(what + ": the arm is at", x.count(3), ring);
            e.due(what + ": to ring " + ring, x.count(4), goes);
        }
    }

    private void nextByRound() {
        e.of(0, "by a ROUND the nearest of those on the RING where the arm is or farther inward, if there are any, "
            + "else the nearest of all from RING 0 on; ");
        RingArm x = at(5, 'r');
        nextIs("nothing is asked", x, NONE);
        askAll(x, 4, 1);
        nextIs("from ring 0 on", x, 1);
        askAll(x, 0);
        nextIs("ring 0", x, 2);
        askAll(x, 9);
        nextIs("one farther inward, however far", x, 3);
        askAll(x, 6);
        nextIs("the nearest farther inward", x, 4);
        askAll(x, 5);
        nextIs("where the arm is", x, 5);
        RingArm y = at(5, 's');
        askAll(y, 4);
        y.serve();
        e.due("outward", y.count(4), 0);
        y.choose(3);
        askAll(y, 3, 6);
        nextIs("inward, also if the arm goes outward", y, 1);
    }

    private void likeOnes() {
        e.of(0, "of like ones the least. ");
        RingArm x = at(5, 'n');
        askAll(x, 9, 7, 3, 7);
        nextIs("NEAREST, on both sides", x, 1);
        x.read(1);
        RingArm y = at(5, 'n');
        askAll(y, 9, 3, 7, 3);
        nextIs("NEAREST, the other way about", y, 1);
        RingArm s = at(5, 's');
        askAll(s, 1, 8, 8);
        nextIs("SWEEP, farther on", s, 1);
        RingArm t = at(5, 's');
        askAll(t, 1, 3, 3);
        nextIs("SWEEP, turned about", t, 1);
        RingArm r = at(5, 'r');
        askAll(r, 1, 8, 8);
        nextIs("ROUND, farther inward", r, 1);
        RingArm q = at(5, 'r');
        askAll(q, 3, 1, 1);
        nextIs("ROUND, from ring 0 on", q, 1);
        RingArm o = Check.plate(TEN + "o");
        o.ask(0, 1);
        o.ask(9, 1);
        o.ask(3, 1);
        nextIs("SOONEST", o, 0);
    }

    private void oneLessByNumber() {
        e.of(0, "One that is DONE is not ASKED any more (those behind it are one less by number).");
        for (int done = 0; done < 7; done++) {
            RingArm x = Check.plate("cacacaca;11;f");
            for (int n = 0; n < 7; n++) {
                x.ask(n % 4, n);
                x.pass(1);
            }
            x.read(done);
            e.due("asked, when " + done + " is done", x.count(5), 6);
            for (int n = 0; n < 6; n++) {
                int was = n < done ? n : n + 1;
                e.due("ring of " + n + ", when " + done + " is done", x.asked(n, 0), was % 4);
                e.due("place of " + n + ", when " + done + " is done", x.asked(n, 1), was);
                e.due("since of " + n + ", when " + done + " is done", x.asked(n, 2), was);
            }
            e.due("no number 6", x.asked(6, 0), UNKNOWN);
        }
        RingArm y = Check.plate("cacacaca;11;f");
        y.ask(0, 0);
        y.serve();
        e.due("none is left", y.count(5), 0);
        e.due("no number 0", y.asked(0, 0), UNKNOWN);
    }
}
