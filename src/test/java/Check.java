/** What the tests share: comparing an answer with the one that is due, and writing a page. */
final class Check {
    private int wrong = 0;

    void due(String call, long got, long want) {
        if (got != want) {
            wrong++;
            System.out.println(call + " answered " + got + ", due is " + want);
        }
    }

    void isTrue(String what, boolean holds) {
        if (!holds) {
            wrong++;
            System.out.println("not so: " + what);
        }
    }

    int wrong() {
        return wrong;
    }

    /** Ends the test's program with exit code 1, if an answer was wrong. */
    void end(String name) {
        System.out.println(name + ": " + (wrong == 0 ? "all answers are as due" : wrong + " answers are not as due"));
        if (wrong != 0) {
            System.exit(1);
        }
    }

    static void write(RingArm arm, String text) {
        for (int i = 0; i < text.length(); i++) {
            arm.letter(text.charAt(i));
        }
    }

    static RingArm plate(String text) {
        RingArm arm = new RingArm();
        write(arm, text);
        arm.plate();
        return arm;
    }
}
