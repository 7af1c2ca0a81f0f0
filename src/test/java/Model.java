import java.util.ArrayList;
import java.util.Arrays;
import java.util.List;
import java.util.function.IntUnaryOperator;

/**
 * The document once more, written without regard to the program: the plate turns tick by tick,
 * and whatever is to be best is found by trying all there is.
 */
final class Model {
    static final int NONE = -1, UNKNOWN = -101, OUTSIDE = -102, STATE = -103, FULL = -104;

    /** One that is asked: its ring, its place, since when. */
    record Order(int ring, int place, int since) {
    }

    record Seen(int rings, int ticks) {
    }

    /** All that an image keeps, beside how many places the rings have. */
    static final class World {
        int[] places = new int[0];
        int[] offsets = new int[0];
        int start, step, tick, arm, kind;
        boolean inward = true;
        List<Order> asked = new ArrayList<>();
        int[] weights = new int[6];
        List<Seen> seen = new ArrayList<>();

        World copy() {
            World w = new World();
            w.places = places.clone();
            w.offsets = offsets.clone();
            w.start = start;
            w.step = step;
            w.tick = tick;
            w.arm = arm;
            w.kind = kind;
            w.inward = inward;
            w.asked = new ArrayList<>(asked);
            w.weights = weights.clone();
            w.seen = new ArrayList<>(seen);
            return w;
        }

        int lasts(int ring) {
            return 24 / places[ring];
        }

        boolean begins(int ring, int place, int tick) {
            return (tick % 24 + 24 - offsets[ring]) % 24 == place * lasts(ring);
        }

        int way(int from, int to) {
            int ticks = from == to ? 0 : start;
            for (int r = Math.min(from, to); r < Math.max(from, to); r++) {
                ticks += step;
            }
            return ticks;
        }

        /** Reads a place; answers when it is done. */
        int go(int ring, int place) {
            tick += way(arm, ring);
            arm = ring;
            while (!begins(ring, place, tick)) {
                tick++;
            }
            tick += lasts(ring);
            return tick;
        }

        int wouldBeDone(Order o) {
            return copy().go(o.ring, o.place);
        }

        int leastOf(boolean[] among, IntUnaryOperator of) {
            int best = NONE;
            for (int n = asked.size() - 1; n >= 0; n--) {
                if (among[n] && (best == NONE || of.applyAsInt(n) <= of.applyAsInt(best))) {
                    best = n;
                }
            }
            return best;
        }

        boolean[] side(boolean in) {
            boolean[] there = new boolean[asked.size()];
            for (int n = 0; n < there.length; n++) {
                int ring = asked.get(n).ring;
                there[n] = ring == arm || (in ? ring > arm : ring < arm);
            }
            return there;
        }

        int nextBy(int by) {
            boolean[] all = new boolean[asked.size()];
            Arrays.fill(all, true);
            IntUnaryOperator away = n -> Math.abs(asked.get(n).ring - arm);
            int found;
            switch (by) {
                case 0:
                    return asked.isEmpty() ? NONE : 0;
                case 1:
                    return leastOf(all, away);
                case 2:
                    found = leastOf(side(inward), away);
                    return found != NONE ? found : leastOf(side(!inward), away);
                case 3:
                    found = leastOf(side(true), away);
                    return found != NONE ? found : leastOf(all, n -> asked.get(n).ring);
                default:
                    return leastOf(all, n -> wouldBeDone(asked.get(n)));
            }
        }

        /** Does the next one; answers how long it waited. */
        int doNext(int by) {
            int n = nextBy(by);
            if (by == 2 && leastOf(side(inward), x -> x) == NONE) {
                inward = !inward;
            }
            return doOne(n);
        }

        int doOne(int n) {
            Order o = asked.remove(n);
            return go(o.ring, o.place) - o.since;
        }
    }

    World world = new World();
    World kept = null;
    StringBuilder page = new StringBuilder();
    int plates, leasts;

    boolean none() {
        return world.places.length == 0;
    }

    boolean noRing(int ring) {
        return ring < 0 || ring >= world.places.length;
    }

    static boolean out(int x, int from, int to) {
        return x < from || x > to;
    }

    /** Whether a text can be gone on with so that a plate comes of it. */
    static boolean begun(String text) {
        String rings = "([23468c][a-x])";
        for (int n = 0; n <= 10; n++) {
            String head = rings + "{" + n + "}";
            if (text.matches(head) || n < 10 && text.matches(head + "[23468c]")
                || n >= 4 && text.matches(head + ";([0-9]([1-9](;[fnsro]?)?)?)?")) {
                return true;
            }
        }
        return false;
    }

    int letter(int code) {
        if (out(code, 1, 126)) {
            return OUTSIDE;
        }
        if (page.length() == 28) {
            return FULL;
        }
        return page.append((char) code).length();
    }

    int blank() {
        int had = page.length();
        page = new StringBuilder();
        return had;
    }

    int fault() {
        for (int i = 1; i <= page.length(); i++) {
            if (!begun(page.substring(0, i))) {
                return i - 1;
            }
        }
        return page.length();
    }

    int plate() {
        String text = page.toString();
        if (!text.matches("([23468c][a-x]){4,10};[0-9][1-9];[fnsro]")) {
            return STATE;
        }
        String[] parts = text.split(";");
        int n = parts[0].length() / 2;
        world = new World();
        world.places = new int[n];
        world.offsets = new int[n];
        for (int r = 0; r < n; r++) {
            world.places[r] = Integer.parseInt(parts[0].substring(2 * r, 2 * r + 1), 16);
            world.offsets[r] = parts[0].charAt(2 * r + 1) - 'a';
            if (world.places[r] == 12 != (parts[0].charAt(2 * r) == 'c')) {
                throw new IllegalStateException(text);
            }
        }
        world.start = parts[1].charAt(0) - '0';
        world.step = parts[1].charAt(1) - '0';
        world.kind = "fnsro".indexOf(parts[2]);
        kept = null;
        plates++;
        blank();
        return n;
    }

    int ring(int ring, int what) {
        if (noRing(ring)) {
            return UNKNOWN;
        }
        if (out(what, 0, 4)) {
            return OUTSIDE;
        }
        int bits = 0;
        for (int n = 0; n < world.asked.size(); n++) {
            bits += world.asked.get(n).ring == ring ? 1 << n : 0;
        }
        return new int[] {world.places[ring], world.offsets[ring], world.lasts(ring), bits,
            world.way(world.arm, ring)}[what];
    }

    int asked(int number, int what) {
        if (out(number, 0, world.asked.size() - 1)) {
            return UNKNOWN;
        }
        if (out(what, 0, 3)) {
            return OUTSIDE;
        }
        Order o = world.asked.get(number);
        return new int[] {o.ring, o.place, o.since, world.wouldBeDone(o)}[what];
    }

    int as(int kind) {
        if (out(kind, 0, 4)) {
            return OUTSIDE;
        }
        if (none()) {
            return STATE;
        }
        int is = world.kind;
        boolean such = kind == 0 || kind == is || kind == 2 && is == 3 || kind == 1 && is == 4;
        return such ? is : NONE;
    }

    int next() {
        return none() ? STATE : world.nextBy(world.kind);
    }

    int ask(int ring, int place) {
        if (noRing(ring) || out(place, 0, world.places[ring] - 1)) {
            return UNKNOWN;
        }
        if (world.asked.size() == 7) {
            return FULL;
        }
        world.asked.add(new Order(ring, place, world.tick));
        return world.asked.size();
    }

    int serve() {
        if (none() || world.asked.isEmpty()) {
            return STATE;
        }
        World after = world.copy();
        after.doNext(world.kind);
        return unlessFull(after);
    }

    int read(int number) {
        if (out(number, 0, world.asked.size() - 1)) {
            return UNKNOWN;
        }
        World after = world.copy();
        after.doOne(number);
        return unlessFull(after);
    }

    int unlessFull(World after) {
        if (after.tick > 100000) {
            return FULL;
        }
        world = after;
        return world.tick;
    }

    int pass(int ticks) {
        if (out(ticks, 1, 99)) {
            return OUTSIDE;
        }
        if (none()) {
            return STATE;
        }
        World after = world.copy();
        after.tick += ticks;
        return unlessFull(after);
    }

    int choose(int kind) {
        if (out(kind, 0, 4)) {
            return OUTSIDE;
        }
        if (none()) {
            return STATE;
        }
        int was = world.kind;
        world.kind = kind;
        return was;
    }

    int skew(int ring, int offset) {
        if (noRing(ring)) {
            return UNKNOWN;
        }
        if (out(offset, 0, 23)) {
            return OUTSIDE;
        }
        int had = world.offsets[ring];
        world.offsets[ring] = offset;
        return had;
    }

    int gear(int start, int step) {
        if (out(start, 0, 9) || out(step, 1, 9)) {
            return OUTSIDE;
        }
        if (none()) {
            return STATE;
        }
        int had = world.step;
        world.start = start;
        world.step = step;
        return had;
    }

    int run(int kind, int what) {
        if (out(kind, 0, 4) || out(what, 0, 1)) {
            return OUTSIDE;
        }
        if (none()) {
            return STATE;
        }
        World w = world.copy();
        int waited = 0;
        while (!w.asked.isEmpty()) {
            waited += w.doNext(kind);
        }
        return what == 0 ? w.tick : waited;
    }

    /** All orders of 0 to n - 1, by numbers. */
    static List<int[]> allOrders(int n) {
        List<int[]> all = new ArrayList<>();
        grow(new int[n], 0, all);
        return all;
    }

    private static void grow(int[] begun, int at, List<int[]> all) {
        if (at == begun.length) {
            all.add(begun.clone());
            return;
        }
        for (int x = 0; x < begun.length; x++) {
            boolean taken = false;
            for (int i = 0; i < at; i++) {
                taken |= begun[i] == x;
            }
            if (!taken) {
                begun[at] = x;
                grow(begun, at + 1, all);
            }
        }
    }

    int least(int what) {
        if (what != 0 && out(what, 10, 16)) {
            return OUTSIDE;
        }
        if (none() || leasts == 16) {
            return STATE;
        }
        leasts++;
        int bestTick = Integer.MAX_VALUE;
        int[] best = {};
        for (int[] order : allOrders(world.asked.size())) {
            int[] at = {world.tick, world.arm};
            for (int n : order) {
                Order o = world.asked.get(n);
                at[0] += world.way(at[1], o.ring);
                while (!world.begins(o.ring, o.place, at[0])) {
                    at[0]++;
                }
                at[0] += world.lasts(o.ring);
                at[1] = o.ring;
            }
            if (at[0] < bestTick) {
                bestTick = at[0];
                best = order;
            }
        }
        return what == 0 ? bestTick : what - 10 < best.length ? best[what - 10] : NONE;
    }

    int things() {
        int many = 6;
        while (many > 0 && world.weights[many - 1] == 0) {
            many--;
        }
        return many;
    }

    int weigh(int thing, int weight) {
        if (out(thing, 0, 5) || noRing(thing)) {
            return UNKNOWN;
        }
        if (out(weight, 0, 9)) {
            return OUTSIDE;
        }
        int had = world.weights[thing];
        world.weights[thing] = weight;
        return had;
    }

    int lay(int what) {
        if (what != 0 && out(what, 10, 15)) {
            return OUTSIDE;
        }
        if (none()) {
            return STATE;
        }
        int bestSum = Integer.MAX_VALUE;
        int[] best = {};
        for (int[] on : allOrders(things())) {
            int sum = 0;
            for (int a = 0; a < on.length; a++) {
                for (int b = a + 1; b < on.length; b++) {
                    sum += world.weights[a] * world.weights[b] * Math.abs(on[a] - on[b]);
                }
            }
            if (sum < bestSum) {
                bestSum = sum;
                best = on;
            }
        }
        return what == 0 ? bestSum : what - 10 < best.length ? best[what - 10] : NONE;
    }

    static int readBehind(World from, int ring, int other, int offset) {
        World w = from.copy();
        w.offsets[other] = offset;
        w.arm = ring;
        w.tick = w.offsets[ring];
        int began = w.tick;
        for (int p = 0; p < w.places[ring]; p++) {
            w.go(ring, p);
        }
        for (int p = 0; p < w.places[other]; p++) {
            w.go(other, p);
        }
        return w.tick - began;
    }

    int behind(int ring, int other, int what) {
        if (noRing(ring) || noRing(other) || ring == other) {
            return UNKNOWN;
        }
        if (out(what, 0, 2)) {
            return OUTSIDE;
        }
        int best = 0;
        for (int offset = 1; offset < 24; offset++) {
            if (readBehind(world, ring, other, offset) < readBehind(world, ring, other, best)) {
                best = offset;
            }
        }
        return new int[] {readBehind(world, ring, other, world.offsets[other]), best,
            readBehind(world, ring, other, best)}[what];
    }

    int readApart(int ring, int think, int gap) {
        World w = world.copy();
        w.arm = ring;
        w.tick = w.offsets[ring];
        int began = w.tick;
        int done = began;
        for (int n = 0; n < w.places[ring]; n++) {
            done = w.go(ring, n * gap % w.places[ring]);
            w.tick += think;
        }
        return done - began;
    }

    int apart(int ring, int think, int what) {
        if (noRing(ring)) {
            return UNKNOWN;
        }
        if (out(think, 0, 23) || out(what, 0, 1)) {
            return OUTSIDE;
        }
        int best = NONE;
        for (int gap = world.places[ring] - 1; gap >= 1; gap--) {
            boolean[] met = new boolean[world.places[ring]];
            int sorts = 0;
            for (int n = 0; n < met.length; n++) {
                sorts += met[n * gap % met.length] ? 0 : 1;
                met[n * gap % met.length] = true;
            }
            if (sorts == met.length
                && (best == NONE || readApart(ring, think, gap) <= readApart(ring, think, best))) {
                best = gap;
            }
        }
        return what == 0 ? best : readApart(ring, think, best);
    }

    int see(int rings, int ticks) {
        if (out(rings, 1, 9) || out(ticks, 0, 99)) {
            return OUTSIDE;
        }
        if (none()) {
            return STATE;
        }
        if (world.seen.size() == 6) {
            return FULL;
        }
        world.seen.add(new Seen(rings, ticks));
        return world.seen.size();
    }

    int forget() {
        int was = world.seen.size();
        world.seen.clear();
        return was;
    }

    static int stepsFor(int start, List<Seen> seen) {
        int bits = 0;
        for (int step = 9; step >= 1; step--) {
            int s = step;
            bits = 2 * bits + (seen.stream().allMatch(x -> !out(start + s * x.rings, x.ticks - 1, x.ticks + 1)) ? 1 : 0);
        }
        return bits;
    }

    int steps() {
        return none() ? STATE : stepsFor(world.start, world.seen);
    }

    int trial() {
        if (none()) {
            return STATE;
        }
        int bits = steps();
        int best = NONE;
        int fewest = 10;
        for (int rings = 1; rings <= 9 && bits != 0; rings++) {
            int worst = 0;
            for (int right = 1; right <= 9; right++) {
                if ((bits >> right - 1) % 2 == 1) {
                    List<Seen> more = new ArrayList<>(world.seen);
                    more.add(new Seen(rings, world.start + right * rings));
                    worst = Math.max(worst, Integer.bitCount(stepsFor(world.start, more)));
                }
            }
            if (worst < fewest) {
                fewest = worst;
                best = rings;
            }
        }
        return best;
    }

    int days(int times, int seed, int what) {
        if (out(times, 1, 60) || seed < 0 || out(what, 0, 2)) {
            return OUTSIDE;
        }
        if (none()) {
            return STATE;
        }
        World w = world.copy();
        w.asked.clear();
        long s = seed;
        int waited = 0;
        for (int i = 0; i < times; i++) {
            s = (1103515245L * s + 12345) % (1L << 31);
            int ring = (int) (s / 65536 % w.places.length);
            s = (1103515245L * s + 12345) % (1L << 31);
            w.asked.add(new Order(ring, (int) (s / 65536 % w.places[ring]), w.tick));
            if (w.asked.size() > 2) {
                waited += w.doNext(w.kind);
            }
        }
        while (!w.asked.isEmpty()) {
            waited += w.doNext(w.kind);
        }
        return new int[] {w.tick, waited, (int) s}[what];
    }

    int image() {
        if (none()) {
            return STATE;
        }
        kept = world.copy();
        return world.tick;
    }

    int restore() {
        if (kept == null) {
            return STATE;
        }
        world = kept.copy();
        return world.tick;
    }

    int count(int what) {
        if (out(what, 0, 12)) {
            return OUTSIDE;
        }
        return new int[] {world.places.length, Arrays.stream(world.places).sum(), world.tick, world.arm,
            !none() && world.inward ? 1 : 0, world.asked.size(), world.start, world.step, things(),
            world.seen.size(), page.length(), plates, leasts}[what];
    }

    long digest() {
        List<Integer> told = new ArrayList<>();
        for (int r = 0; r < world.places.length; r++) {
            for (int what = 0; what < 5; what++) {
                told.add(ring(r, what));
            }
            told.add(apart(r, 5, 0));
            told.add(apart(r, 5, 1));
        }
        for (int n = 0; n < 4 * world.asked.size(); n++) {
            told.add(asked(n / 4, n % 4));
        }
        if (!none()) {
            told.add(world.kind);
            told.add(next());
            for (int n = 0; n < 10; n++) {
                told.add(run(n / 2, n % 2));
            }
            for (int what = 0; what < 3; what++) {
                told.add(behind(0, 1, what));
            }
            for (int what : new int[] {0, 10, 11, 12, 13, 14, 15}) {
                told.add(lay(what));
            }
            told.add(steps());
            told.add(trial());
        }
        page.chars().forEach(told::add);
        for (int what = 0; what < 13; what++) {
            told.add(count(what));
        }
        long h = 1291;
        for (int number : told) {
            h = 31 * h + number;
        }
        return h;
    }
}
