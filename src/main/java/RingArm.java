/**
 * An arm over turning rings: what is asked of it, when that would be done, and what would be best.
 * Every call answers with a number; a refusal is one of the constants and changes nothing.
 */
public final class RingArm {
    public static final int NONE = -1, UNKNOWN = -101, OUTSIDE = -102, STATE = -103, FULL = -104;

    private static final int TURN = 24;
    private static final int LEAST_RINGS = 4, MOST_RINGS = 10;
    private static final int MOST_LETTERS = 28, MOST_ASKED = 7, MOST_THINGS = 6, MOST_SEEN = 6;
    private static final int MOST_STEP = 9, MOST_START = 9, MOST_TRY = 9, MOST_WEIGHT = 9;
    private static final int LAST_TICK = 100000, MOST_PASSED = 99, MOST_TICKS_SEEN = 99;
    private static final int MOST_LEAST = 16, MOST_TIMES = 60, DAYS_WAIT_FOR = 3;
    private static final int KINDS = 5, FIRST = 0, NEAREST = 1, SWEEP = 2, ROUND = 3, SOONEST = 4;
    private static final int COUNTS = 13, DIGEST_THINK = 5, DIGEST_START = 1291;
    private static final int ABOVE_ALL = 2147483647;

    private final Page page = new Page();
    private final Disc disc = new Disc();
    private final Desk desk = new Desk(disc);
    private final Things things = new Things();
    private final Sight sight = new Sight();
    private final First[] policies = {new First(), new Nearest(), new Sweep(), new Round(), new Soonest()};
    private First policy = new First();

    private final Disc keptDisc = new Disc();
    private final Desk keptDesk = new Desk(keptDisc);
    private final Things keptThings = new Things();
    private final Sight keptSight = new Sight();
    private First keptPolicy = policy;
    private boolean imageKept = false;

    /** What would be is played here, so that what is stays as it is. */
    private final Desk probe = new Desk(disc);
    private final Orders orders = new Orders();

    private int platesRead = 0;
    private int leastDone = 0;

    public RingArm() {
    }

    // ---- the plate

    public int letter(int code) {
        if (code < 1 || code > 126) {
            return OUTSIDE;
        }
        if (page.size >= MOST_LETTERS) {
            return FULL;
        }
        return page.append(code);
    }

    public int blank() {
        return page.clear();
    }

    public int fault() {
        return page.firstFault();
    }

    public int plate() {
        if (!page.isPlate()) {
            return STATE;
        }
        policy = policyOf(page.policyKind());
        disc.readFrom(page);
        page.clear();
        desk.restart();
        things.clear();
        sight.clear();
        imageKept = false;
        platesRead++;
        return disc.size;
    }

    public int ring(int ring, int what) {
        if (!disc.has(ring)) {
            return UNKNOWN;
        }
        switch (what) {
            case 0: return at(disc.places, ring);
            case 1: return at(disc.offsets, ring);
            case 2: return at(disc.lasts, ring);
            case 3: return desk.bitsOn(ring);
            case 4: return disc.travel(desk.ring, ring);
            default: return OUTSIDE;
        }
    }

    public int asked(int number, int what) {
        if (!desk.has(number)) {
            return UNKNOWN;
        }
        switch (what) {
            case 0: return at(desk.rings, number);
            case 1: return at(desk.places, number);
            case 2: return at(desk.since, number);
            case 3: return desk.doneAt(number);
            default: return OUTSIDE;
        }
    }

    public int as(int kind) {
        if (!isKind(kind)) {
            return OUTSIDE;
        }
        if (!hasPlate()) {
            return STATE;
        }
        return isOf(policy, kind) ? policy.kind() : NONE;
    }

    public int next() {
        if (!hasPlate()) {
            return STATE;
        }
        return policy.pick(desk);
    }

    // ---- what is done

    public int ask(int ring, int place) {
        if (!disc.has(ring) || place < 0 || place >= at(disc.places, ring)) {
            return UNKNOWN;
        }
        if (desk.size >= MOST_ASKED) {
            return FULL;
        }
        return desk.append(ring, place);
    }

    public int serve() {
        if (!hasPlate() || desk.size == 0) {
            return STATE;
        }
        int number = policy.pick(desk);
        if (desk.doneAt(number) > LAST_TICK) {
            return FULL;
        }
        desk.follow(policy, number);
        return desk.tick;
    }

    public int read(int number) {
        if (!desk.has(number)) {
            return UNKNOWN;
        }
        if (desk.doneAt(number) > LAST_TICK) {
            return FULL;
        }
        desk.finish(number);
        return desk.tick;
    }

    public int pass(int ticks) {
        if (ticks < 1 || ticks > MOST_PASSED) {
            return OUTSIDE;
        }
        if (!hasPlate()) {
            return STATE;
        }
        if (desk.tick + ticks > LAST_TICK) {
            return FULL;
        }
        desk.tick += ticks;
        return desk.tick;
    }

    public int choose(int kind) {
        if (!isKind(kind)) {
            return OUTSIDE;
        }
        if (!hasPlate()) {
            return STATE;
        }
        int before = policy.kind();
        policy = policyOf(kind);
        return before;
    }

    public int skew(int ring, int offset) {
        if (!disc.has(ring)) {
            return UNKNOWN;
        }
        if (offset < 0 || offset >= TURN) {
            return OUTSIDE;
        }
        int before = at(disc.offsets, ring);
        put(disc.offsets, ring, offset);
        return before;
    }

    public int gear(int start, int step) {
        if (start < 0 || start > MOST_START || step < 1 || step > MOST_STEP) {
            return OUTSIDE;
        }
        if (!hasPlate()) {
            return STATE;
        }
        int before = disc.step;
        disc.start = start;
        disc.step = step;
        return before;
    }

    // ---- what would be

    public int run(int kind, int what) {
        if (!isKind(kind) || what < 0 || what > 1) {
            return OUTSIDE;
        }
        if (!hasPlate()) {
            return STATE;
        }
        probe.copyFrom(desk);
        probe.followAll(policyOf(kind));
        return what == 0 ? probe.tick : probe.waited;
    }

    public int least(int what) {
        if (what != 0 && (what < 10 || what >= 10 + MOST_ASKED)) {
            return OUTSIDE;
        }
        if (!hasPlate() || leastDone >= MOST_LEAST) {
            return STATE;
        }
        leastDone++;
        orders.solve(desk);
        if (what == 0) {
            return orders.bestTick;
        }
        return what - 10 < orders.size ? at(orders.best, what - 10) : NONE;
    }

    public int weigh(int thing, int weight) {
        if (thing < 0 || thing >= MOST_THINGS || !disc.has(thing)) {
            return UNKNOWN;
        }
        if (weight < 0 || weight > MOST_WEIGHT) {
            return OUTSIDE;
        }
        int before = at(things.weights, thing);
        put(things.weights, thing, weight);
        return before;
    }

    public int lay(int what) {
        if (what != 0 && (what < 10 || what >= 10 + MOST_THINGS)) {
            return OUTSIDE;
        }
        if (!hasPlate()) {
            return STATE;
        }
        things.solve();
        return things.told(what);
    }

    public int behind(int ring, int other, int what) {
        if (!disc.has(ring) || !disc.has(other) || ring == other) {
            return UNKNOWN;
        }
        int reached = at(disc.offsets, ring) + TURN + disc.travel(ring, other);
        int best = Math.floorMod(reached, TURN);
        int leastTicks = 2 * TURN + disc.travel(ring, other);
        switch (what) {
            case 0: return leastTicks + Math.floorMod(at(disc.offsets, other) - reached, TURN);
            case 1: return best;
            case 2: return leastTicks;
            default: return OUTSIDE;
        }
    }

    public int apart(int ring, int think, int what) {
        if (!disc.has(ring)) {
            return UNKNOWN;
        }
        if (think < 0 || think >= TURN || what < 0 || what > 1) {
            return OUTSIDE;
        }
        int gap = disc.bestGap(ring, think);
        return what == 0 ? gap : disc.gapTicks(ring, think, gap);
    }

    // ---- what is seen

    public int see(int rings, int ticks) {
        if (rings < 1 || rings > MOST_TRY || ticks < 0 || ticks > MOST_TICKS_SEEN) {
            return OUTSIDE;
        }
        if (!hasPlate()) {
            return STATE;
        }
        if (sight.size >= MOST_SEEN) {
            return FULL;
        }
        return sight.append(rings, ticks);
    }

    public int forget() {
        return sight.clear();
    }

    public int steps() {
        if (!hasPlate()) {
            return STATE;
        }
        return sight.fitting(disc.start);
    }

    public int trial() {
        if (!hasPlate()) {
            return STATE;
        }
        return bestTry(sight.fitting(disc.start));
    }

    public int days(int times, int seed, int what) {
        if (times < 1 || times > MOST_TIMES || seed < 0 || what < 0 || what > 2) {
            return OUTSIDE;
        }
        if (!hasPlate()) {
            return STATE;
        }
        int last = playDays(times, seed);
        switch (what) {
            case 0: return probe.tick;
            case 1: return probe.waited;
            default: return last;
        }
    }

    // ---- what is told of all

    public int image() {
        if (!hasPlate()) {
            return STATE;
        }
        keptDisc.copyFrom(disc);
        keptDesk.copyFrom(desk);
        keptThings.copyFrom(things);
        keptSight.copyFrom(sight);
        keptPolicy = policy;
        imageKept = true;
        return desk.tick;
    }

    public int restore() {
        if (!imageKept) {
            return STATE;
        }
        disc.copyFrom(keptDisc);
        desk.copyFrom(keptDesk);
        things.copyFrom(keptThings);
        sight.copyFrom(keptSight);
        policy = keptPolicy;
        return desk.tick;
    }

    public int count(int what) {
        switch (what) {
            case 0: return disc.size;
            case 1: return disc.allPlaces();
            case 2: return desk.tick;
            case 3: return desk.ring;
            case 4: return hasPlate() && desk.inward ? 1 : 0;
            case 5: return desk.size;
            case 6: return disc.start;
            case 7: return disc.step;
            case 8: return things.howMany();
            case 9: return sight.size;
            case 10: return page.size;
            case 11: return platesRead;
            case 12: return leastDone;
            default: return OUTSIDE;
        }
    }

    public long digest() {
        long h = DIGEST_START;
        h = mixRings(h);
        h = mixAsked(h);
        if (hasPlate()) {
            h = mixChoices(h);
            h = mixBests(h);
        }
        for (int i = 0; i < page.size && i < MOST_LETTERS; i++) {
            h = mix(h, at(page.letters, i));
        }
        for (int what = 0; what < COUNTS; what++) {
            h = mix(h, count(what));
        }
        return h;
    }

    private long mixRings(long h) {
        for (int r = 0; r < disc.size && r < MOST_RINGS; r++) {
            for (int what = 0; what <= 4; what++) {
                h = mix(h, ring(r, what));
            }
            int gap = disc.bestGap(r, DIGEST_THINK);
            h = mix(h, gap);
            h = mix(h, disc.gapTicks(r, DIGEST_THINK, gap));
        }
        return h;
    }

    private long mixAsked(long h) {
        for (int n = 0; n < desk.size && n < MOST_ASKED; n++) {
            for (int what = 0; what <= 3; what++) {
                h = mix(h, asked(n, what));
            }
        }
        return h;
    }

    private long mixChoices(long h) {
        h = mix(h, policy.kind());
        h = mix(h, policy.pick(desk));
        for (int kind = 0; kind < KINDS; kind++) {
            probe.copyFrom(desk);
            probe.followAll(policyOf(kind));
            h = mix(h, probe.tick);
            h = mix(h, probe.waited);
        }
        return h;
    }

    private long mixBests(long h) {
        for (int what = 0; what <= 2; what++) {
            h = mix(h, behind(0, 1, what));
        }
        things.solve();
        h = mix(h, things.told(0));
        for (int thing = 0; thing < MOST_THINGS; thing++) {
            h = mix(h, things.told(10 + thing));
        }
        int bits = sight.fitting(disc.start);
        h = mix(h, bits);
        return mix(h, bestTry(bits));
    }

    private static long mix(long h, long number) {
        return 31 * h + number;
    }

    private boolean hasPlate() {
        return disc.size > 0;
    }

    private static boolean isKind(int kind) {
        return kind >= 0 && kind < KINDS;
    }

    private First policyOf(int kind) {
        if (kind < 0 || kind >= policies.length) {
            return policy;
        }
        First found = policies[kind];
        return found == null ? policy : found;
    }

    private static boolean isOf(First policy, int kind) {
        switch (kind) {
            case FIRST: return true;
            case NEAREST: return policy instanceof Nearest;
            case SWEEP: return policy instanceof Sweep;
            case ROUND: return policy instanceof Round;
            case SOONEST: return policy instanceof Soonest;
            default: return false;
        }
    }

    /** Plays the days on the probe; answers the seed behind the last draw. */
    private int playDays(int times, int seed) {
        probe.copyFrom(desk);
        probe.size = 0;
        int now = seed;
        for (int i = 0; i < times; i++) {
            now = nextSeed(now);
            int ring = drawn(now, disc.size);
            now = nextSeed(now);
            probe.append(ring, drawn(now, at(disc.places, ring)));
            if (probe.size >= DAYS_WAIT_FOR) {
                probe.follow(policy, policy.pick(probe));
            }
        }
        probe.followAll(policy);
        return now;
    }

    private static int nextSeed(int seed) {
        return (int) ((1103515245L * seed + 12345L) & 0x7fffffffL);
    }

    private static int drawn(int seed, int howMany) {
        return howMany > 0 ? (seed / 65536) % howMany : 0;
    }

    /** Over how many rings to look next, if the steps in these bits are left; NONE without any. */
    private static int bestTry(int bits) {
        int best = NONE;
        int fewest = MOST_STEP + 1;
        for (int rings = 1; rings <= MOST_TRY && bits != 0; rings++) {
            int worst = worstLeft(bits, rings);
            if (worst < fewest) {
                fewest = worst;
                best = rings;
            }
        }
        return best;
    }

    private static int worstLeft(int bits, int rings) {
        int worst = 0;
        for (int right = 1; right <= MOST_STEP; right++) {
            if (!hasBit(bits, right - 1)) {
                continue;
            }
            int left = 0;
            for (int step = 1; step <= MOST_STEP; step++) {
                if (hasBit(bits, step - 1) && Math.abs(step - right) * rings <= 1) {
                    left++;
                }
            }
            worst = Math.max(worst, left);
        }
        return worst;
    }

    private static boolean hasBit(int bits, int bit) {
        return (bits >> bit & 1) != 0;
    }

    // Rows are read and written through these three alone, so that no index is ever outside.

    private static int at(int[] row, int index) {
        return index >= 0 && index < row.length ? row[index] : 0;
    }

    private static void put(int[] row, int index, int value) {
        if (index >= 0 && index < row.length) {
            row[index] = value;
        }
    }

    private static void copyRow(int[] from, int[] to) {
        for (int i = 0; i < from.length && i < to.length; i++) {
            to[i] = from[i];
        }
    }

    /** The text that is to be a plate. */
    private static final class Page {
        final int[] letters = new int[MOST_LETTERS];
        int size = 0;

        int append(int code) {
            if (size < MOST_LETTERS) {
                put(letters, size, code);
                size++;
            }
            return size;
        }

        int clear() {
            int had = size;
            size = 0;
            return had;
        }

        int firstFault() {
            int end = NONE;
            for (int i = 0; i < size && i < MOST_LETTERS; i++) {
                int sign = at(letters, i);
                if (!(end == NONE ? fitsRings(i, sign) : fitsTail(i - end, sign))) {
                    return i;
                }
                if (end == NONE && sign == ';') {
                    end = i;
                }
            }
            return size;
        }

        boolean isPlate() {
            return firstFault() == size && size == ringsEnd() + 5;
        }

        /** Where the first ';' stands; far behind all letters, if there is none. */
        int ringsEnd() {
            for (int i = 0; i < size && i < MOST_LETTERS; i++) {
                if (at(letters, i) == ';') {
                    return i;
                }
            }
            return MOST_LETTERS;
        }

        int policyKind() {
            return kindOf(at(letters, size - 1));
        }

        private static boolean fitsRings(int place, int sign) {
            if (place % 2 == 1) {
                return sign >= 'a' && sign < 'a' + TURN;
            }
            if (sign == ';') {
                return place >= 2 * LEAST_RINGS;
            }
            return place < 2 * MOST_RINGS && placesOf(sign) != NONE;
        }

        private static boolean fitsTail(int behindRings, int sign) {
            switch (behindRings) {
                case 1: return sign >= '0' && sign <= '9';
                case 2: return sign >= '1' && sign <= '9';
                case 3: return sign == ';';
                case 4: return kindOf(sign) != NONE;
                default: return false;
            }
        }

        static int placesOf(int sign) {
            switch (sign) {
                case '2': return 2;
                case '3': return 3;
                case '4': return 4;
                case '6': return 6;
                case '8': return 8;
                case 'c': return 12;
                default: return NONE;
            }
        }

        static int kindOf(int sign) {
            switch (sign) {
                case 'f': return FIRST;
                case 'n': return NEAREST;
                case 's': return SWEEP;
                case 'r': return ROUND;
                case 'o': return SOONEST;
                default: return NONE;
            }
        }
    }

    /** The rings, and how the arm goes over them; no rings: no plate. */
    private static final class Disc {
        final int[] places = new int[MOST_RINGS];
        final int[] offsets = new int[MOST_RINGS];
        final int[] lasts = new int[MOST_RINGS];
        int size = 0;
        int start = 0;
        int step = 0;

        void readFrom(Page page) {
            int end = page.ringsEnd();
            size = Math.min(end / 2, MOST_RINGS);
            for (int r = 0; r < size && r < MOST_RINGS; r++) {
                int howMany = Page.placesOf(at(page.letters, 2 * r));
                put(places, r, howMany);
                put(lasts, r, howMany > 0 ? TURN / howMany : TURN);
                put(offsets, r, at(page.letters, 2 * r + 1) - 'a');
            }
            start = at(page.letters, end + 1) - '0';
            step = at(page.letters, end + 2) - '0';
        }

        void copyFrom(Disc other) {
            copyRow(other.places, places);
            copyRow(other.offsets, offsets);
            copyRow(other.lasts, lasts);
            size = other.size;
            start = other.start;
            step = other.step;
        }

        boolean has(int ring) {
            return ring >= 0 && ring < size;
        }

        int allPlaces() {
            int sum = 0;
            for (int r = 0; r < size && r < MOST_RINGS; r++) {
                sum += at(places, r);
            }
            return sum;
        }

        int travel(int from, int to) {
            if (from == to) {
                return 0;
            }
            return start + step * (from < to ? to - from : from - to);
        }

        /** The tick at which a place is done, if the arm sets out for it at a tick from a ring. */
        int doneAt(int tick, int from, int ring, int place) {
            int lasting = at(lasts, ring);
            int reached = tick + travel(from, ring);
            int begins = at(offsets, ring) + place * lasting;
            return reached + Math.floorMod(begins - reached, TURN) + lasting;
        }

        int bestGap(int ring, int think) {
            int howMany = at(places, ring);
            int best = 1;
            for (int gap = 2; gap < howMany; gap++) {
                if (haveNoDivisor(gap, howMany) && gapTicks(ring, think, gap) < gapTicks(ring, think, best)) {
                    best = gap;
                }
            }
            return best;
        }

        /** From when the first place begins till the last one is done, each so many places farther. */
        int gapTicks(int ring, int think, int gap) {
            int lasting = at(lasts, ring);
            int ready = lasting + think;
            int each = ready + Math.floorMod(gap * lasting - ready, TURN);
            return (at(places, ring) - 1) * each + lasting;
        }

        private static boolean haveNoDivisor(int one, int other) {
            for (int d = 2; d <= one; d++) {
                if (one % d == 0 && other % d == 0) {
                    return false;
                }
            }
            return true;
        }
    }

    /** The tick, the arm, and what is asked of it. */
    private static final class Desk {
        final Disc disc;
        final int[] rings = new int[MOST_ASKED];
        final int[] places = new int[MOST_ASKED];
        final int[] since = new int[MOST_ASKED];
        int size = 0;
        int tick = 0;
        int ring = 0;
        boolean inward = true;
        /** How long all that were done waited, since the desk was made like another one. */
        int waited = 0;

        Desk(Disc disc) {
            this.disc = disc;
        }

        void restart() {
            size = 0;
            tick = 0;
            ring = 0;
            inward = true;
            waited = 0;
        }

        void copyFrom(Desk other) {
            copyRow(other.rings, rings);
            copyRow(other.places, places);
            copyRow(other.since, since);
            size = other.size;
            tick = other.tick;
            ring = other.ring;
            inward = other.inward;
            waited = 0;
        }

        boolean has(int number) {
            return number >= 0 && number < size;
        }

        int bitsOn(int which) {
            int bits = 0;
            for (int n = 0; n < size && n < MOST_ASKED; n++) {
                if (at(rings, n) == which) {
                    bits |= 1 << n;
                }
            }
            return bits;
        }

        int doneAt(int number) {
            return disc.doneAt(tick, ring, at(rings, number), at(places, number));
        }

        int append(int which, int place) {
            if (size < MOST_ASKED) {
                put(rings, size, which);
                put(places, size, place);
                put(since, size, tick);
                size++;
            }
            return size;
        }

        void follow(First policy, int number) {
            if (policy.turns(this, number)) {
                inward = !inward;
            }
            finish(number);
        }

        void followAll(First policy) {
            for (int i = 0; i < MOST_ASKED && size > 0; i++) {
                follow(policy, policy.pick(this));
            }
        }

        void finish(int number) {
            if (!has(number)) {
                return;
            }
            int goal = at(rings, number);
            tick = disc.doneAt(tick, ring, goal, at(places, number));
            ring = goal;
            waited += tick - at(since, number);
            size--;
            for (int n = number; n < size && n < MOST_ASKED; n++) {
                put(rings, n, at(rings, n + 1));
                put(places, n, at(places, n + 1));
                put(since, n, at(since, n + 1));
            }
        }
    }

    /** The policy by which the first one asked comes next, and what all policies have in common. */
    private static class First {
        int kind() {
            return FIRST;
        }

        /** What the next one has least of; of like ones the least number is next. */
        int price(Desk desk, int number) {
            return number;
        }

        /** Whether the arm turns about when this one is done. */
        boolean turns(Desk desk, int number) {
            return false;
        }

        final int pick(Desk desk) {
            int best = NONE;
            int leastPrice = 0;
            for (int n = 0; n < desk.size && n < MOST_ASKED; n++) {
                int its = price(desk, n);
                if (best == NONE || its < leastPrice) {
                    best = n;
                    leastPrice = its;
                }
            }
            return best;
        }
    }

    private static class Nearest extends First {
        int kind() {
            return NEAREST;
        }

        int price(Desk desk, int number) {
            return Math.abs(at(desk.rings, number) - desk.ring);
        }
    }

    private static final class Soonest extends Nearest {
        int kind() {
            return SOONEST;
        }

        int price(Desk desk, int number) {
            return desk.disc.doneAt(desk.tick, desk.ring, at(desk.rings, number), at(desk.places, number));
        }
    }

    private static class Sweep extends First {
        int kind() {
            return SWEEP;
        }

        int price(Desk desk, int number) {
            int away = Math.abs(at(desk.rings, number) - desk.ring);
            // MOST_RINGS more than any ring ahead can be away, so that those come first.
            return isAhead(desk, number) ? away : MOST_RINGS + away;
        }

        boolean turns(Desk desk, int number) {
            return !isAhead(desk, number);
        }

        private static boolean isAhead(Desk desk, int number) {
            int ring = at(desk.rings, number);
            return desk.inward ? ring >= desk.ring : ring <= desk.ring;
        }
    }

    private static final class Round extends Sweep {
        int kind() {
            return ROUND;
        }

        int price(Desk desk, int number) {
            int ring = at(desk.rings, number);
            return ring >= desk.ring ? ring - desk.ring : MOST_RINGS + ring;
        }

        boolean turns(Desk desk, int number) {
            return false;
        }
    }

    /** The order in which all that are asked are done soonest. */
    private static final class Orders {
        final int[] order = new int[MOST_ASKED];
        final int[] best = new int[MOST_ASKED];
        int size = 0;
        int bestTick = 0;

        void solve(Desk desk) {
            size = Math.min(desk.size, MOST_ASKED);
            bestTick = ABOVE_ALL;
            search(this, desk, 0, desk.tick, desk.ring, 0);
        }

        private static void search(Orders found, Desk desk, int depth, int tick, int ring, int used) {
            // Orders come by numbers, so a later one has to be sooner to be better.
            if (tick >= found.bestTick) {
                return;
            }
            if (depth >= found.size || depth >= MOST_ASKED) {
                found.bestTick = tick;
                copyRow(found.order, found.best);
                return;
            }
            for (int n = 0; n < found.size && n < MOST_ASKED; n++) {
                if (!hasBit(used, n)) {
                    int goal = at(desk.rings, n);
                    put(found.order, depth, n);
                    int done = desk.disc.doneAt(tick, ring, goal, at(desk.places, n));
                    search(found, desk, depth + 1, done, goal, used | 1 << n);
                }
            }
        }
    }

    /** Things by weights, and how they lie best. */
    private static final class Things {
        final int[] weights = new int[MOST_THINGS];
        final int[] lying = new int[MOST_THINGS];
        final int[] best = new int[MOST_THINGS];
        int bestSum = 0;

        void clear() {
            for (int t = 0; t < MOST_THINGS; t++) {
                put(weights, t, 0);
            }
        }

        void copyFrom(Things other) {
            copyRow(other.weights, weights);
        }

        int howMany() {
            int many = 0;
            for (int t = 0; t < MOST_THINGS; t++) {
                if (at(weights, t) > 0) {
                    many = t + 1;
                }
            }
            return many;
        }

        void solve() {
            bestSum = ABOVE_ALL;
            search(this, 0, howMany(), 0, 0);
        }

        /** What solve() found: 0 how much, 10 and on where a thing lies. */
        int told(int what) {
            if (what == 0) {
                return bestSum;
            }
            return what - 10 < howMany() ? at(best, what - 10) : NONE;
        }

        private static void search(Things found, int thing, int many, int sum, int used) {
            // Layings come by numbers, so a later one has to be less to be better.
            if (sum >= found.bestSum) {
                return;
            }
            if (thing >= many || thing >= MOST_THINGS) {
                found.bestSum = sum;
                copyRow(found.lying, found.best);
                return;
            }
            for (int ring = 0; ring < many && ring < MOST_THINGS; ring++) {
                if (!hasBit(used, ring)) {
                    put(found.lying, thing, ring);
                    search(found, thing + 1, many, sum + found.share(thing), used | 1 << ring);
                }
            }
        }

        /** What a thing adds to the sum with those ahead of it. */
        private int share(int thing) {
            int sum = 0;
            for (int t = 0; t < thing && t < MOST_THINGS; t++) {
                sum += at(weights, t) * at(weights, thing) * Math.abs(at(lying, t) - at(lying, thing));
            }
            return sum;
        }
    }

    /** What moves were seen to take. */
    private static final class Sight {
        final int[] rings = new int[MOST_SEEN];
        final int[] ticks = new int[MOST_SEEN];
        int size = 0;

        int append(int over, int took) {
            if (size < MOST_SEEN) {
                put(rings, size, over);
                put(ticks, size, took);
                size++;
            }
            return size;
        }

        int clear() {
            int had = size;
            size = 0;
            return had;
        }

        void copyFrom(Sight other) {
            copyRow(other.rings, rings);
            copyRow(other.ticks, ticks);
            size = other.size;
        }

        /** The steps, as bits, by which all that is seen is so, but for one tick each. */
        int fitting(int start) {
            int bits = 0;
            for (int step = 1; step <= MOST_STEP; step++) {
                if (isSo(start, step)) {
                    bits |= 1 << (step - 1);
                }
            }
            return bits;
        }

        private boolean isSo(int start, int step) {
            for (int i = 0; i < size && i < MOST_SEEN; i++) {
                if (Math.abs(start + step * at(rings, i) - at(ticks, i)) > 1) {
                    return false;
                }
            }
            return true;
        }
    }
}
