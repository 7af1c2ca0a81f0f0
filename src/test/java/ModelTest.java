import java.util.Random;

/** Runs of calls by seeds, answered by the program and by the model: both must say the same. */
public final class ModelTest {
    private static final int RUNS = 300, CALLS = 512;
    private static final int[] EDGES = {Integer.MIN_VALUE, -1, 99, 100, 127, Integer.MAX_VALUE};

    private final Random random;
    private final RingArm arm = new RingArm();
    private final Model model = new Model();
    private final Check check;
    private final StringBuilder calls = new StringBuilder();
    private int made = 0;

    private ModelTest(int seed, Check check) {
        this.random = new Random(seed);
        this.check = check;
    }

    public static void main(String[] args) {
        Check check = new Check();
        for (int seed = 1; seed <= RUNS && check.wrong() == 0; seed++) {
            ModelTest test = new ModelTest(seed, check);
            test.play();
            if (check.wrong() != 0) {
                System.out.println("seed " + seed + ":" + test.calls);
            }
        }
        check.end("ModelTest");
    }

    private void play() {
        if (random.nextInt(4) != 0) {
            writePlate();
        }
        while (made < CALLS && check.wrong() == 0) {
            if (made < CALLS - 30 && random.nextInt(120) == 0) {
                writePlate();
            } else {
                call(random.nextInt(100));
            }
        }
    }

    private int upTo(int most) {
        return random.nextInt(most + 1);
    }

    /** Mostly from 0 to what is right, now and then a little or far beside it. */
    private int near(int from, int to) {
        int beside = random.nextInt(40);
        if (beside == 0) {
            return EDGES[random.nextInt(EDGES.length)];
        }
        if (beside == 1) {
            return from - 1;
        }
        if (beside == 2) {
            return to + 1;
        }
        return from + random.nextInt(Math.max(1, to - from + 1));
    }

    private void same(String call, long got, long want) {
        made++;
        calls.append(' ').append(call).append('=').append(got);
        check.due(call, got, want);
    }

    private void letter(int code) {
        same("letter(" + code + ")", arm.letter(code), model.letter(code));
    }

    private void writePlate() {
        same("blank()", arm.blank(), model.blank());
        int rings = 4 + upTo(6);
        for (int r = 0; r < rings; r++) {
            letter("23468c".charAt(upTo(5)));
            letter('a' + upTo(23));
        }
        letter(';');
        letter('0' + upTo(9));
        letter('1' + upTo(8));
        letter(';');
        letter(random.nextInt(10) == 0 ? 'x' : "fnsro".charAt(upTo(4)));
        same("fault()", arm.fault(), model.fault());
        same("plate()", arm.plate(), model.plate());
    }

    private void call(int which) {
        int ring = near(0, arm.count(0) - 1);
        if (which < 25) {
            askOrDo(which, ring);
        } else if (which < 50) {
            change(which, ring);
        } else {
            look(which, ring);
        }
    }

    private void askOrDo(int which, int ring) {
        if (which < 14) {
            int place = near(0, Math.max(0, arm.ring(ring, 0) - 1));
            same("ask(" + ring + ", " + place + ")", arm.ask(ring, place), model.ask(ring, place));
        } else if (which < 22) {
            same("serve()", arm.serve(), model.serve());
        } else {
            int n = near(0, arm.count(5) - 1);
            same("read(" + n + ")", arm.read(n), model.read(n));
        }
    }

    private void change(int which, int ring) {
        int a = near(0, 9);
        int b = near(1, 9);
        if (which < 28) {
            int ticks = near(1, 99);
            same("pass(" + ticks + ")", arm.pass(ticks), model.pass(ticks));
        } else if (which < 32) {
            int kind = near(0, 4);
            same("choose(" + kind + ")", arm.choose(kind), model.choose(kind));
        } else if (which < 34) {
            int offset = near(0, 23);
            same("skew(" + ring + ", " + offset + ")", arm.skew(ring, offset), model.skew(ring, offset));
        } else if (which < 36) {
            same("gear(" + a + ", " + b + ")", arm.gear(a, b), model.gear(a, b));
        } else if (which < 41) {
            int thing = near(0, 5);
            same("weigh(" + thing + ", " + a + ")", arm.weigh(thing, a), model.weigh(thing, a));
        } else if (which < 43) {
            int ticks = random.nextInt(3) == 0 ? near(0, 99) : arm.count(6) + 4 * b + upTo(2) - 1;
            same("see(" + b + ", " + ticks + ")", arm.see(b, ticks), model.see(b, ticks));
        } else if (which < 44) {
            same("forget()", arm.forget(), model.forget());
        } else if (which < 46) {
            same("image()", arm.image(), model.image());
        } else if (which < 47) {
            same("restore()", arm.restore(), model.restore());
        } else if (which < 49) {
            letter(random.nextBoolean() ? near(1, 126) : "2a;4b;01;f".charAt(upTo(9)));
        } else {
            same("plate()", arm.plate(), model.plate());
        }
    }

    private void look(int which, int ring) {
        int what = near(0, 4);
        int far = random.nextBoolean() ? near(10, 16) : near(0, 0);
        int other = near(0, arm.count(0) - 1);
        if (which < 55) {
            same("ring(" + ring + ", " + what + ")", arm.ring(ring, what), model.ring(ring, what));
        } else if (which < 60) {
            int n = near(0, arm.count(5) - 1);
            same("asked(" + n + ", " + what + ")", arm.asked(n, what), model.asked(n, what));
        } else if (which < 63) {
            same("as(" + what + ")", arm.as(what), model.as(what));
        } else if (which < 68) {
            same("next()", arm.next(), model.next());
        } else if (which < 74) {
            int of = near(0, 1);
            same("run(" + what + ", " + of + ")", arm.run(what, of), model.run(what, of));
        } else if (which < 77) {
            same("least(" + far + ")", arm.least(far), model.least(far));
        } else if (which < 81) {
            same("lay(" + far + ")", arm.lay(far), model.lay(far));
        } else if (which < 84) {
            same("behind(" + ring + ", " + other + ", " + what + ")", arm.behind(ring, other, what),
                model.behind(ring, other, what));
        } else if (which < 87) {
            int think = near(0, 23);
            int of = near(0, 1);
            same("apart(" + ring + ", " + think + ", " + of + ")", arm.apart(ring, think, of),
                model.apart(ring, think, of));
        } else {
            lookFarther(which, what);
        }
    }

    private void lookFarther(int which, int what) {
        if (which < 89) {
            same("steps()", arm.steps(), model.steps());
        } else if (which < 91) {
            same("trial()", arm.trial(), model.trial());
        } else if (which < 94) {
            int times = near(1, 60);
            int seed = random.nextBoolean() ? near(0, 9999) : random.nextInt();
            int of = near(0, 2);
            same("days(" + times + ", " + seed + ", " + of + ")", arm.days(times, seed, of),
                model.days(times, seed, of));
        } else if (which < 96) {
            int of = near(0, 12);
            same("count(" + of + ")", arm.count(of), model.count(of));
        } else if (which < 97) {
            same("fault()", arm.fault(), model.fault());
        } else if (which < 98) {
            same("blank()", arm.blank(), model.blank());
        } else {
            same("digest()", arm.digest(), model.digest());
        }
    }
}
