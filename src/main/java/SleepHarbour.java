/**
 * A port of sleep: berths, the dreams that come in to them, tides by nights.
 * What each call does, answers and refuses is told in DOC.md, promise by promise.
 */
public final class SleepHarbour {
    public static final int UNKNOWN = -1, BAD = -2, LATE = -3, FULL = -4, NONE = -9;

    private static final int MOST_BYTES = 48, MOST_TIDES = 4, MOST_BERTHS = 4, MOST_DREAMS = 5;
    private static final int MOST_ACTS = 14, MOST_SOUNDED = 6, MOST_SLOTS = 2;
    private static final int MOST_NIGHTS = 20, MOST_DOINGS = 4, MOST_YEARS = 30;

    private static final int PLAIN = 0, CHILD = 1, DOUBLE = 2, DREDGED = 3;
    private static final int NIGHTMARE = 1, BARGE = 2, WRECK = 3, LAST_KIND = 3;
    private static final int DEEPEST = 9, CHILD_DRAUGHT = 3, NIGHTMARE_WAITS = 3;

    /** Where a dream is, if it is in no berth. */
    private static final int LIES_OFF = 8, DREAMT = 9;

    /** What one of two dreams chooses, and what it has by it. */
    private static final int NO_BERTH = 4, CHOICES = 5;
    private static final int HAS_DREAMT = 3, HAS_GROUNDED = -2, HAS_BEEN_LEFT = -1;

    private static final long SEED_TIMES = 6364136223846793005L, SEED_AND = 1442695040888963407L;
    private static final int[] FACTORIAL = {1, 1, 2, 6, 24};

    private final Text text = new Text();
    private final Told told = new Told();
    private final Told draft = new Told();
    private final Harbour now = new Harbour(told);
    private final Harbour then = new Harbour(told);
    private final Acts acts = new Acts(told);
    private final Sounded sounded = new Sounded();
    private final Planner planner = new Planner(told, then);
    private final Choosers choosers = new Choosers(told, then);
    private final Harbour[] kept = new Harbour[MOST_SLOTS];
    private final boolean[] isKept = new boolean[MOST_SLOTS];
    private long seedNow = 0;

    public SleepHarbour() {
        for (int slot = 0; slot < MOST_SLOTS; slot++) {
            kept[slot] = new Harbour(told);
        }
    }

    // ---- the port

    public int write(int letter) {
        if (letter < 0 || letter > 255) {
            return BAD;
        }
        return text.add(letter);
    }

    public int wipe() {
        return text.empty();
    }

    public int fault() {
        return text.tell(draft);
    }

    public int port() {
        // A text with a fault must leave the port as it is, so a draft hears it first.
        if (text.tell(draft) != NONE) {
            return LATE;
        }
        text.tell(told);
        now.begin();
        acts.forget();
        for (int slot = 0; slot < MOST_SLOTS; slot++) {
            isKept[slot] = false;
        }
        return 100 * told.tides + 10 * told.berths + told.dreams;
    }

    public int about(int what) {
        switch (what) {
            case 0:
                return told.tides;
            case 1:
                return told.berths;
            case 2:
                return told.dreams;
            case 3:
                return now.nights;
            case 4:
                return now.tide();
            case 5:
                return now.dreamsAt(LIES_OFF);
            case 6:
                return now.dreamsBerthed();
            case 7:
                return now.dreamsAt(DREAMT);
            case 8:
                return now.wokeInAll();
            case 9:
                return acts.count;
            case 10:
                return sounded.count;
            case 11:
                return text.length;
            default:
                return BAD;
        }
    }

    public int berth(int berth, int what) {
        if (!told.hasBerth(berth)) {
            return UNKNOWN;
        }
        switch (what) {
            case 0:
                return now.depth[berth];
            case 1:
                return told.berthKind[berth];
            case 2:
                return now.water(berth);
            case 3:
                return now.dreamsAt(berth);
            case 4:
                return now.woke[berth];
            default:
                return BAD;
        }
    }

    public int dream(int dream, int what) {
        if (!told.hasDream(dream)) {
            return UNKNOWN;
        }
        switch (what) {
            case 0:
                return now.draught[dream];
            case 1:
                return told.dreamKind[dream];
            case 2:
                return now.place[dream];
            case 3:
                return now.liesOff(dream) ? now.lain[dream] : NONE;
            case 4:
                return now.liesOff(dream) ? now.berthsOpenTo(dream) : 0;
            default:
                return BAD;
        }
    }

    // ---- acts

    public int night() {
        acts.remember(now);
        return now.passNight();
    }

    public int moor(int dream, int berth) {
        if (!told.hasDream(dream) || !told.hasBerth(berth)) {
            return UNKNOWN;
        }
        if (!now.canMoor(dream, berth)) {
            return LATE;
        }
        acts.remember(now);
        now.place[dream] = berth;
        return now.countAt(berth);
    }

    public int tow(int dream) {
        if (!told.hasDream(dream)) {
            return UNKNOWN;
        }
        if (!now.canTow(dream)) {
            return LATE;
        }
        acts.remember(now);
        int berth = now.place[dream];
        now.towOut(dream);
        return berth;
    }

    public int undo() {
        if (acts.count == 0) {
            return LATE;
        }
        acts.takeBack(now);
        return acts.count;
    }

    // ---- nights to come

    public int later(int dream, int n) {
        if (!told.hasDream(dream)) {
            return UNKNOWN;
        }
        if (!isNights(n)) {
            return BAD;
        }
        lookAhead(n);
        return then.place[dream];
    }

    public int wakes(int berth, int n) {
        if (!told.hasBerth(berth)) {
            return UNKNOWN;
        }
        if (!isNights(n)) {
            return BAD;
        }
        lookAhead(n);
        return then.woke[berth];
    }

    public int fits(int dream, int n) {
        if (!told.hasDream(dream)) {
            return UNKNOWN;
        }
        if (!isNights(n)) {
            return BAD;
        }
        lookAhead(n);
        return then.berthsFitFor(dream);
    }

    public int soonest(int dream) {
        if (!told.hasDream(dream)) {
            return UNKNOWN;
        }
        if (now.place[dream] == DREAMT) {
            return LATE;
        }
        then.becomes(now);
        for (int n = 0; n <= MOST_NIGHTS; n++) {
            if (then.berthsFitFor(dream) != 0) {
                return n;
            }
            then.passNight();
        }
        return NONE;
    }

    public int plan(boolean way) {
        planner.search(now, allBerths());
        return way ? planner.way : planner.most;
    }

    public int judge(int n, long row) {
        if (n < 1 || n > MOST_DOINGS || row < 0) {
            return BAD;
        }
        if (withoutLast(row, n) != 0) {
            return BAD;
        }
        then.becomes(now);
        for (int i = 0; i < n; i++) {
            if (!then.does((int) (withoutLast(row, n - 1 - i) % 1000))) {
                return i;
            }
        }
        return NONE;
    }

    public int share(int berth, boolean upper) {
        if (!told.hasBerth(berth)) {
            return UNKNOWN;
        }
        int more = 0;
        for (int come = 0; come <= allBerths(); come++) {
            if ((come >> berth & 1) == 0) {
                int before = Integer.bitCount(come);
                int orders = FACTORIAL[before] * FACTORIAL[told.berths - 1 - before];
                more += orders * (planner.search(now, come | 1 << berth) - planner.search(now, come));
            }
        }
        return part(more, FACTORIAL[told.berths], upper);
    }

    // ---- sounded

    public int sound(int g, int t, int grounded) {
        if (g < 1 || g > DEEPEST || t < 0 || t > 9 || grounded < 0 || grounded > 1) {
            return BAD;
        }
        return sounded.add(g, t, grounded == 1);
    }

    public int unsound() {
        return sounded.empty();
    }

    public int depths(int what) {
        if (what < 0 || what > 1) {
            return BAD;
        }
        int count = 0;
        int first = NONE;
        for (int kind = PLAIN; kind <= DREDGED; kind += DREDGED) {
            for (int depth = 0; depth <= DEEPEST; depth++) {
                if (sounded.agrees(kind, depth, told)) {
                    count++;
                    first = first == NONE ? 10 * kind + depth : first;
                }
            }
        }
        return what == 0 ? count : first;
    }

    // ---- rests, chances

    public int rests(int one, int other, int what) {
        if (!told.hasDream(one) || !told.hasDream(other)) {
            return UNKNOWN;
        }
        if (one == other || what < 0 || what > 1) {
            return BAD;
        }
        if (!now.liesOff(one) || !now.liesOff(other)) {
            return LATE;
        }
        then.becomes(now);
        int count = 0;
        int first = NONE;
        for (int a = 0; a < CHOICES; a++) {
            for (int b = 0; b < CHOICES; b++) {
                if (choosers.isContent(one, a, other, b) && choosers.isContent(other, b, one, a)) {
                    count++;
                    first = first == NONE ? 10 * a + b : first;
                }
            }
        }
        return what == 0 ? count : first;
    }

    public int ebb(int m, int x, boolean upper) {
        if (m < 0 || m > MOST_DREAMS || x < 0 || x > 10) {
            return BAD;
        }
        int likely = 0;
        int all = 1;
        for (int berth = 0; berth < told.berths; berth++) {
            all *= 10;
        }
        for (int failed = 0; failed <= allBerths(); failed++) {
            if (now.dreamtIfFailed(failed) >= m) {
                likely += weightOf(failed, x);
            }
        }
        return part(likely, all, upper);
    }

    public long seed(long v) {
        long was = seedNow;
        seedNow = v;
        return was;
    }

    public int years(int m) {
        if (m < 1 || m > MOST_YEARS) {
            return BAD;
        }
        then.becomes(now);
        int together = 0;
        for (int i = 0; i < m; i++) {
            seedNow = seedNow * SEED_TIMES + SEED_AND;
            then.drift((int) ((seedNow >>> 33) % 32));
            together += then.countAt(DREAMT);
        }
        return together;
    }

    // ---- slots

    public int keep(int slot) {
        if (slot < 0 || slot >= MOST_SLOTS) {
            return UNKNOWN;
        }
        kept[slot].becomes(now);
        isKept[slot] = true;
        return now.nights;
    }

    public int again(int slot) {
        if (slot < 0 || slot >= MOST_SLOTS) {
            return UNKNOWN;
        }
        if (!isKept[slot]) {
            return LATE;
        }
        now.becomes(kept[slot]);
        acts.forget();
        return now.nights;
    }

    // ---- helpers of the calls

    private static boolean isNights(int n) {
        return n >= 0 && n <= MOST_NIGHTS;
    }

    private void lookAhead(int n) {
        then.becomes(now);
        for (int i = 0; i < n; i++) {
            then.passNight();
        }
    }

    /** What is left of a row of doings ahead of its last ones. */
    private static long withoutLast(long row, int doings) {
        long left = row;
        for (int i = 0; i < doings; i++) {
            left /= 1000;
        }
        return left;
    }

    /** All berths, as bits. */
    private int allBerths() {
        return (1 << told.berths) - 1;
    }

    /** How likely it is that the tide fails in just these berths, in parts of ten for each berth. */
    private int weightOf(int failed, int x) {
        int weight = 1;
        for (int berth = 0; berth < told.berths; berth++) {
            weight *= (failed >> berth & 1) == 1 ? x : 10 - x;
        }
        return weight;
    }

    private static int part(int above, int below, boolean upper) {
        int common = commonDivisor(Math.abs(above), below);
        if (common == 0) {
            return 0;
        }
        return upper ? above / common : below / common;
    }

    private static int commonDivisor(int a, int b) {
        int large = a;
        int small = b;
        // Every second turn halves the larger one at least, so 64 turns are enough for any int.
        for (int i = 0; i < 64 && small != 0; i++) {
            int left = large % small;
            large = small;
            small = left;
        }
        return large;
    }

    /** The bytes that were written, whether they tell a port or not. */
    private static final class Text {
        final int[] bytes = new int[MOST_BYTES];
        int length = 0;

        int add(int letter) {
            if (length >= MOST_BYTES) {
                return FULL;
            }
            bytes[length] = letter;
            length++;
            return length;
        }

        int empty() {
            int was = length;
            length = 0;
            return was;
        }

        /** Tells itself to a port; answers the place of the first fault. */
        int tell(Told port) {
            port.beginAnew();
            for (int at = 0; at < length; at++) {
                if (!port.hears(bytes[at])) {
                    return at;
                }
            }
            return port.mayEnd() ? NONE : length;
        }
    }

    /** What a text tells of a port, heard byte by byte; nights do not change it. */
    private static final class Told {
        /** What is open when no thing is. */
        static final int BEFORE_ALL = 0, BETWEEN = 1;

        final int[] tideOf = new int[MOST_TIDES];
        final int[] depth = new int[MOST_BERTHS];
        final int[] berthKind = new int[MOST_BERTHS];
        final int[] draught = new int[MOST_DREAMS];
        final int[] dreamKind = new int[MOST_DREAMS];
        int tides = 0;
        int berths = 0;
        int dreams = 0;
        /** The letter of the thing that is being told, and its first figure, if that was heard. */
        int open = BEFORE_ALL;
        int figure = NONE;

        void beginAnew() {
            tides = 0;
            berths = 0;
            dreams = 0;
            open = BEFORE_ALL;
            figure = NONE;
        }

        boolean mayEnd() {
            return open == BETWEEN;
        }

        boolean hasBerth(int berth) {
            return berth >= 0 && berth < berths;
        }

        boolean hasDream(int dream) {
            return dream >= 0 && dream < dreams;
        }

        int tideOn(int night) {
            return tides == 0 ? 0 : tideOf[Math.floorMod(night, tides)];
        }

        /** Whether a port can go on with this byte; if so, it does. */
        boolean hears(int letter) {
            if (open == BEFORE_ALL) {
                open = BETWEEN;
                return letter == 'H';
            }
            if (open == BETWEEN) {
                open = letter;
                figure = NONE;
                return hasRoomFor(letter);
            }
            if (letter < '0' || letter > '9') {
                return false;
            }
            return figure == NONE ? hearsFirst(letter - '0') : hearsKind(letter - '0');
        }

        private boolean hasRoomFor(int letter) {
            switch (letter) {
                case 'T':
                    return tides < MOST_TIDES;
                case 'B':
                    return berths < MOST_BERTHS;
                case 'D':
                    return dreams < MOST_DREAMS;
                default:
                    return false;
            }
        }

        private boolean hearsFirst(int value) {
            if (open == 'D' && value == 0) {
                return false;
            }
            if (open == 'T') {
                tideOf[tides] = value;
                tides++;
                open = BETWEEN;
            } else {
                figure = value;
            }
            return true;
        }

        private boolean hearsKind(int kind) {
            if (kind > LAST_KIND) {
                return false;
            }
            if (open == 'B') {
                depth[berths] = figure;
                berthKind[berths] = kind;
                berths++;
            } else {
                draught[dreams] = figure;
                dreamKind[dreams] = kind;
                dreams++;
            }
            open = BETWEEN;
            return true;
        }
    }

    /** The port as it is on some night: all that nights and acts change. */
    private static final class Harbour {
        final Told told;
        final int[] place = new int[MOST_DREAMS];
        final int[] lain = new int[MOST_DREAMS];
        final int[] draught = new int[MOST_DREAMS];
        final int[] depth = new int[MOST_BERTHS];
        final int[] woke = new int[MOST_BERTHS];
        int nights = 0;

        Harbour(Told told) {
            this.told = told;
        }

        void begin() {
            for (int dream = 0; dream < MOST_DREAMS; dream++) {
                place[dream] = LIES_OFF;
                lain[dream] = 0;
                draught[dream] = told.draught[dream];
            }
            for (int berth = 0; berth < MOST_BERTHS; berth++) {
                depth[berth] = told.depth[berth];
                woke[berth] = 0;
            }
            nights = 0;
        }

        void becomes(Harbour other) {
            System.arraycopy(other.place, 0, place, 0, MOST_DREAMS);
            System.arraycopy(other.lain, 0, lain, 0, MOST_DREAMS);
            System.arraycopy(other.draught, 0, draught, 0, MOST_DREAMS);
            System.arraycopy(other.depth, 0, depth, 0, MOST_BERTHS);
            System.arraycopy(other.woke, 0, woke, 0, MOST_BERTHS);
            nights = other.nights;
        }

        int tide() {
            return told.tideOn(nights);
        }

        int water(int berth) {
            return depth[berth] + tide();
        }

        boolean liesOff(int dream) {
            return place[dream] == LIES_OFF;
        }

        boolean isBerthed(int dream) {
            return place[dream] < MOST_BERTHS;
        }

        /** Dreams (bits) that are in a berth, lie off or are dreamt, as the place says. */
        int dreamsAt(int where) {
            int bits = 0;
            for (int dream = 0; dream < told.dreams; dream++) {
                if (place[dream] == where) {
                    bits |= 1 << dream;
                }
            }
            return bits;
        }

        int countAt(int where) {
            return Integer.bitCount(dreamsAt(where));
        }

        int dreamsBerthed() {
            int bits = 0;
            for (int berth = 0; berth < told.berths; berth++) {
                bits |= dreamsAt(berth);
            }
            return bits;
        }

        int wokeInAll() {
            int sum = 0;
            for (int berth = 0; berth < told.berths; berth++) {
                sum += woke[berth];
            }
            return sum;
        }

        /** How many dreams more a berth holds. */
        int roomIn(int berth) {
            int room = told.berthKind[berth] == DOUBLE ? 2 : 1;
            for (int dream = 0; dream < told.dreams; dream++) {
                if (place[dream] == berth) {
                    room--;
                }
            }
            return room;
        }

        /** Whether a dream can be in a berth by kinds alone. */
        boolean suits(int dream, int berth) {
            if (told.berthKind[berth] != CHILD) {
                return true;
            }
            return draught[dream] <= CHILD_DRAUGHT && told.dreamKind[dream] != NIGHTMARE;
        }

        boolean canBe(int dream, int berth) {
            return suits(dream, berth) && roomIn(berth) > 0;
        }

        int berthsOpenTo(int dream) {
            int bits = 0;
            for (int berth = 0; berth < told.berths; berth++) {
                if (canBe(dream, berth)) {
                    bits |= 1 << berth;
                }
            }
            return bits;
        }

        int berthsFitFor(int dream) {
            int bits = 0;
            for (int berth = 0; berth < told.berths; berth++) {
                if (suits(dream, berth) && draught[dream] <= water(berth)) {
                    bits |= 1 << berth;
                }
            }
            return bits;
        }

        boolean canMoor(int dream, int berth) {
            return told.hasDream(dream) && told.hasBerth(berth) && liesOff(dream) && canBe(dream, berth);
        }

        boolean canTow(int dream) {
            return told.hasDream(dream) && isBerthed(dream);
        }

        void towOut(int dream) {
            place[dream] = LIES_OFF;
            lain[dream] = 0;
        }

        /** Dreams (bits) in a berth that are dreamt this night under such a tide; nothing is changed. */
        int dreamtIn(int berth, int tide) {
            int bits = 0;
            int deep = depth[berth];
            for (int dream = 0; dream < told.dreams; dream++) {
                if (place[dream] == berth) {
                    if (draught[dream] <= deep + tide) {
                        bits |= 1 << dream;
                    } else {
                        deep = spoilt(deep, dream);
                    }
                }
            }
            return bits;
        }

        /** How deep a berth still is when a dream has grounded in it. */
        private int spoilt(int deep, int dream) {
            return told.dreamKind[dream] == WRECK ? Math.max(0, deep - 1) : deep;
        }

        int dreamtIfFailed(int failed) {
            int count = 0;
            for (int berth = 0; berth < told.berths; berth++) {
                int tide = (failed >> berth & 1) == 1 ? 0 : tide();
                count += Integer.bitCount(dreamtIn(berth, tide));
            }
            return count;
        }

        /** A NIGHT; answers how many are dreamt in it. */
        int passNight() {
            int count = 0;
            int tide = tide();
            // What happens in one berth does not touch another, so going by berths is going by number.
            for (int berth = 0; berth < told.berths; berth++) {
                int dreamt = dreamtIn(berth, tide);
                count += Integer.bitCount(dreamt);
                sleepIn(berth, dreamt);
            }
            lieOffLonger();
            bringNightmares();
            dredge();
            nights++;
            return count;
        }

        private void sleepIn(int berth, int dreamt) {
            for (int dream = 0; dream < told.dreams; dream++) {
                if (place[dream] == berth) {
                    if ((dreamt >> dream & 1) == 1) {
                        place[dream] = DREAMT;
                    } else {
                        woke[berth]++;
                        depth[berth] = spoilt(depth[berth], dream);
                    }
                }
            }
        }

        private void lieOffLonger() {
            for (int dream = 0; dream < told.dreams; dream++) {
                if (liesOff(dream)) {
                    lain[dream]++;
                    if (told.dreamKind[dream] == BARGE) {
                        draught[dream] = Math.min(DEEPEST, draught[dream] + 1);
                    }
                }
            }
        }

        private void bringNightmares() {
            for (int dream = 0; dream < told.dreams; dream++) {
                if (told.dreamKind[dream] == NIGHTMARE && liesOff(dream) && lain[dream] >= NIGHTMARE_WAITS) {
                    moorInLeast(dream);
                }
            }
        }

        private void moorInLeast(int dream) {
            for (int berth = 0; berth < told.berths; berth++) {
                if (canBe(dream, berth)) {
                    place[dream] = berth;
                    return;
                }
            }
        }

        private void dredge() {
            for (int berth = 0; berth < told.berths; berth++) {
                if (told.berthKind[berth] == DREDGED) {
                    depth[berth] = Math.min(DEEPEST, depth[berth] + 1);
                }
            }
        }

        /** Does, or finds so, what three figures tell; answers false if it can not be or is not so. */
        boolean does(int figures) {
            int second = figures / 10 % 10;
            int third = figures % 10;
            switch (figures / 100) {
                case 0:
                    if (figures != 0) {
                        return false;
                    }
                    passNight();
                    return true;
                case 1:
                    return moors(second, third);
                case 2:
                    return second == 0 && tows(third);
                case 3:
                    return second == 0 && told.hasDream(third) && place[third] == DREAMT;
                case 4:
                    // A figure of 8 or 9 is no berth, though it says where a dream is.
                    return told.hasDream(second) && told.hasBerth(third) && place[second] == third;
                case 5:
                    return told.hasBerth(second) && woke[second] >= third;
                default:
                    return false;
            }
        }

        /** One step of YEARS, by what is left of the seed: what can not be is passed over. */
        void drift(int left) {
            if (left < 20) {
                moors(left / 4, left % 4);
            } else if (left < 25) {
                tows(left - 20);
            } else {
                passNight();
            }
        }

        private boolean moors(int dream, int berth) {
            if (!canMoor(dream, berth)) {
                return false;
            }
            place[dream] = berth;
            return true;
        }

        private boolean tows(int dream) {
            if (!canTow(dream)) {
                return false;
            }
            towOut(dream);
            return true;
        }
    }

    /** The harbour as it was ahead of each of the last acts, in a ring. */
    private static final class Acts {
        final Harbour[] before = new Harbour[MOST_ACTS];
        int next = 0;
        int count = 0;

        Acts(Told told) {
            for (int i = 0; i < MOST_ACTS; i++) {
                before[i] = new Harbour(told);
            }
        }

        void remember(Harbour now) {
            before[next].becomes(now);
            next = (next + 1) % MOST_ACTS;
            count = Math.min(MOST_ACTS, count + 1);
        }

        void takeBack(Harbour now) {
            next = (next + MOST_ACTS - 1) % MOST_ACTS;
            count--;
            now.becomes(before[next]);
        }

        void forget() {
            count = 0;
        }
    }

    /** What was sounded in the unknown berth. */
    private static final class Sounded {
        final int[] draught = new int[MOST_SOUNDED];
        final int[] night = new int[MOST_SOUNDED];
        final boolean[] grounded = new boolean[MOST_SOUNDED];
        int count = 0;

        int add(int g, int t, boolean hasGrounded) {
            if (count >= MOST_SOUNDED) {
                return FULL;
            }
            draught[count] = g;
            night[count] = t;
            grounded[count] = hasGrounded;
            count++;
            return count;
        }

        int empty() {
            int was = count;
            count = 0;
            return was;
        }

        boolean agrees(int kind, int depth, Told told) {
            for (int i = 0; i < count; i++) {
                int deep = kind == DREDGED ? Math.min(DEEPEST, depth + night[i]) : depth;
                boolean grounds = draught[i] > deep + told.tideOn(night[i]);
                if (grounds != grounded[i]) {
                    return false;
                }
            }
            return true;
        }
    }

    /** Looks through the ways to have the dreams that lie off berthed, from the least way on. */
    private static final class Planner {
        final Told told;
        final Harbour trial;
        int come = 0;
        int most = 0;
        int way = 0;

        Planner(Told told, Harbour trial) {
            this.told = told;
            this.trial = trial;
        }

        /** Finds the PLAN, if only these berths (bits) have come; answers how many are dreamt by it. */
        int search(Harbour now, int berthsCome) {
            trial.becomes(now);
            come = berthsCome;
            most = NONE;
            way = 0;
            choose(0, 0, told.dreams - now.countAt(DREAMT));
            return most;
        }

        /** Goes through the ways that begin so; at best as many are dreamt by them as is hoped. */
        private void choose(int dream, int begun, int hoped) {
            // Of like ways the least is due, and that is the one that was met first.
            if (hoped <= most) {
                return;
            }
            if (dream >= told.dreams) {
                weigh(begun);
                return;
            }
            if (!trial.liesOff(dream)) {
                choose(dream + 1, begun, hoped);
                return;
            }
            choose(dream + 1, 10 * begun, hoped - 1);
            for (int berth = 0; berth < told.berths; berth++) {
                if (isWorthwhile(dream, berth)) {
                    trial.place[dream] = berth;
                    choose(dream + 1, 10 * begun + berth + 1, hoped);
                    trial.place[dream] = LIES_OFF;
                }
            }
        }

        /**
         * A dream that is bound to ground helps no other, and to leave it is the lesser way:
         * so the way that is looked for never has it berthed there.
         */
        private boolean isWorthwhile(int dream, int berth) {
            return (come >> berth & 1) == 1 && trial.canBe(dream, berth)
                    && trial.draught[dream] <= trial.water(berth);
        }

        private void weigh(int whole) {
            int count = 0;
            for (int berth = 0; berth < told.berths; berth++) {
                if ((come >> berth & 1) == 1) {
                    count += Integer.bitCount(trial.dreamtIn(berth, trial.tide()));
                }
            }
            if (count > most) {
                most = count;
                way = whole;
            }
        }
    }

    /** Two dreams that lie off and choose a berth each, both together. */
    private static final class Choosers {
        final Told told;
        final Harbour trial;

        Choosers(Told told, Harbour trial) {
            this.told = told;
            this.trial = trial;
        }

        /** Whether a dream has no more by another choice, while the other one's stays. */
        boolean isContent(int dream, int choice, int other, int otherChoice) {
            int has = gain(dream, choice, other, otherChoice);
            for (int another = 0; another < CHOICES; another++) {
                if (gain(dream, another, other, otherChoice) > has) {
                    return false;
                }
            }
            return true;
        }

        private int gain(int dream, int choice, int other, int otherChoice) {
            int berth = berthChosen(dream, choice);
            int otherBerth = berthChosen(other, otherChoice);
            if (berth == NO_BERTH) {
                return 0;
            }
            if (berth == otherBerth && trial.roomIn(berth) == 1) {
                return HAS_BEEN_LEFT;
            }
            trial.place[dream] = berth;
            trial.place[other] = otherBerth == NO_BERTH ? LIES_OFF : otherBerth;
            int dreamt = trial.dreamtIn(berth, trial.tide());
            trial.place[dream] = LIES_OFF;
            trial.place[other] = LIES_OFF;
            return (dreamt >> dream & 1) == 1 ? HAS_DREAMT : HAS_GROUNDED;
        }

        private int berthChosen(int dream, int choice) {
            return told.hasBerth(choice) && trial.canBe(dream, choice) ? choice : NO_BERTH;
        }
    }
}
