import java.math.BigInteger;
import java.util.ArrayDeque;
import java.util.ArrayList;
import java.util.Deque;
import java.util.HashMap;
import java.util.List;
import java.util.Map;
import java.util.regex.Matcher;
import java.util.regex.Pattern;

/**
 * The document's words once more, in the slowest and most literal way, and without a line of the class:
 * every question about what might be is answered by playing it on a copy of the whole world.
 */
final class Model {
    static final int UNKNOWN = -1, BAD = -2, LATE = -3, FULL = -4, NONE = -9;
    private static final Pattern PORT = Pattern.compile("H(T[0-9]|B[0-9][0-3]|D[1-9][0-3])*", Pattern.DOTALL);
    private static final Pattern THING = Pattern.compile("T[0-9]|B[0-9][0-3]|D[1-9][0-3]");

    static final class Berth {
        int depth;
        int kind;
        int woke;
        boolean come = true;
    }

    static final class Dream {
        int draught;
        int kind;
        int where = 8;
        int lain;
    }

    static final class World {
        List<Integer> tides = new ArrayList<>();
        List<Berth> berths = new ArrayList<>();
        List<Dream> dreams = new ArrayList<>();
        int night;

        World copy() {
            World w = new World();
            w.tides = tides;
            w.night = night;
            for (Berth b : berths) {
                Berth c = new Berth();
                c.depth = b.depth;
                c.kind = b.kind;
                c.woke = b.woke;
                c.come = b.come;
                w.berths.add(c);
            }
            for (Dream d : dreams) {
                Dream c = new Dream();
                c.draught = d.draught;
                c.kind = d.kind;
                c.where = d.where;
                c.lain = d.lain;
                w.dreams.add(c);
            }
            return w;
        }

        int tide(int n) {
            return tides.isEmpty() ? 0 : tides.get(n % tides.size());
        }

        int in(int b) {
            int n = 0;
            for (Dream d : dreams) {
                if (d.where == b) {
                    n++;
                }
            }
            return n;
        }

        boolean kindsLet(Dream d, Berth b) {
            return b.kind != 1 || (d.draught <= 3 && d.kind != 1);
        }

        boolean canBe(int d, int b) {
            Berth berth = berths.get(b);
            return berth.come && in(b) < (berth.kind == 2 ? 2 : 1) && kindsLet(dreams.get(d), berth);
        }

        boolean moor(int d, int b) {
            if (d >= dreams.size() || b >= berths.size() || dreams.get(d).where != 8 || !canBe(d, b)) {
                return false;
            }
            dreams.get(d).where = b;
            return true;
        }

        boolean tow(int d) {
            if (d >= dreams.size() || dreams.get(d).where >= 8) {
                return false;
            }
            dreams.get(d).where = 8;
            dreams.get(d).lain = 0;
            return true;
        }

        int night() {
            int[] tideIn = new int[berths.size()];
            java.util.Arrays.fill(tideIn, tide(night));
            return night(tideIn);
        }

        int night(int[] tideIn) {
            int count = 0;
            for (Dream d : dreams) {
                if (d.where < 8 && berths.get(d.where).come) {
                    Berth b = berths.get(d.where);
                    if (d.draught <= b.depth + tideIn[d.where]) {
                        d.where = 9;
                        count++;
                    } else {
                        b.woke++;
                        if (d.kind == 3 && b.depth > 0) {
                            b.depth--;
                        }
                    }
                }
            }
            for (Dream d : dreams) {
                if (d.where == 8) {
                    d.lain++;
                    if (d.kind == 2 && d.draught < 9) {
                        d.draught++;
                    }
                }
            }
            for (int d = 0; d < dreams.size(); d++) {
                Dream m = dreams.get(d);
                if (m.kind == 1 && m.where == 8 && m.lain >= 3) {
                    for (int b = 0; b < berths.size() && m.where == 8; b++) {
                        moor(d, b);
                    }
                }
            }
            for (Berth b : berths) {
                if (b.kind == 3 && b.depth < 9) {
                    b.depth++;
                }
            }
            night++;
            return count;
        }

        int bitsAt(int where) {
            int bits = 0;
            for (int d = 0; d < dreams.size(); d++) {
                bits |= dreams.get(d).where == where ? 1 << d : 0;
            }
            return bits;
        }

        World in20(int n) {
            World w = copy();
            for (int i = 0; i < n; i++) {
                w.night();
            }
            return w;
        }

        int fits(int d, int n) {
            World w = in20(n);
            int bits = 0;
            for (int b = 0; b < berths.size(); b++) {
                Berth berth = w.berths.get(b);
                if (berth.depth + tide(night + n) >= w.dreams.get(d).draught && w.kindsLet(w.dreams.get(d), berth)) {
                    bits |= 1 << b;
                }
            }
            return bits;
        }

        /** Every way is told, tried and played: how many, and the way. */
        int[] plan() {
            List<Integer> off = new ArrayList<>();
            for (int d = 0; d < dreams.size(); d++) {
                if (dreams.get(d).where == 8) {
                    off.add(d);
                }
            }
            int[] best = {-1, 0};
            int ways = (int) Math.pow(10, off.size());
            for (int way = 0; way < ways; way++) {
                World w = copy();
                if (w.follow(off, way)) {
                    int count = w.night();
                    if (count > best[0]) {
                        best = new int[] {count, way};
                    }
                }
            }
            return best;
        }

        private boolean follow(List<Integer> off, int way) {
            int rest = way;
            int[] figures = new int[off.size()];
            for (int i = off.size() - 1; i >= 0; i--) {
                figures[i] = rest % 10;
                rest /= 10;
                if (figures[i] > berths.size()) {
                    return false;
                }
            }
            for (int i = 0; i < figures.length; i++) {
                if (figures[i] > 0 && !moor(off.get(i), figures[i] - 1)) {
                    return false;
                }
            }
            return true;
        }
    }

    private final StringBuilder text = new StringBuilder();
    private World world = new World();
    private final Deque<World> acts = new ArrayDeque<>();
    private final World[] slots = new World[2];
    private final List<int[]> sounded = new ArrayList<>();
    private long seed = 0;

    int write(int letter) {
        if (letter < 0 || letter > 255) {
            return BAD;
        }
        if (text.length() == 48) {
            return FULL;
        }
        text.append((char) letter);
        return text.length();
    }

    int wipe() {
        int was = text.length();
        text.setLength(0);
        return was;
    }

    private static boolean isPort(String s) {
        return PORT.matcher(s).matches() && count(s, 'T') <= 4 && count(s, 'B') <= 4 && count(s, 'D') <= 5;
    }

    private static int count(String s, char c) {
        return (int) s.chars().filter(x -> x == c).count();
    }

    int fault() {
        for (int i = 0; i < text.length(); i++) {
            String begun = text.substring(0, i + 1);
            if (!isPort(begun) && !isPort(begun + "1") && !isPort(begun + "11")) {
                return i;
            }
        }
        return isPort(text.toString()) ? NONE : text.length();
    }

    int port() {
        if (fault() != NONE) {
            return LATE;
        }
        world = new World();
        Matcher m = THING.matcher(text.substring(1));
        while (m.find()) {
            String thing = m.group();
            int first = thing.charAt(1) - '0';
            if (thing.charAt(0) == 'T') {
                world.tides.add(first);
            } else if (thing.charAt(0) == 'B') {
                Berth b = new Berth();
                b.depth = first;
                b.kind = thing.charAt(2) - '0';
                world.berths.add(b);
            } else {
                Dream d = new Dream();
                d.draught = first;
                d.kind = thing.charAt(2) - '0';
                world.dreams.add(d);
            }
        }
        acts.clear();
        slots[0] = null;
        slots[1] = null;
        return 100 * world.tides.size() + 10 * world.berths.size() + world.dreams.size();
    }

    private boolean noBerth(int b) {
        return b < 0 || b >= world.berths.size();
    }

    private boolean noDream(int d) {
        return d < 0 || d >= world.dreams.size();
    }

    int about(int what) {
        int berthed = 0;
        int woke = 0;
        for (int b = 0; b < world.berths.size(); b++) {
            berthed |= world.bitsAt(b);
            woke += world.berths.get(b).woke;
        }
        int[] all = {world.tides.size(), world.berths.size(), world.dreams.size(), world.night,
            world.tide(world.night), world.bitsAt(8), berthed, world.bitsAt(9), woke, acts.size(),
            sounded.size(), text.length()};
        return what < 0 || what >= all.length ? BAD : all[what];
    }

    int berth(int b, int what) {
        if (noBerth(b)) {
            return UNKNOWN;
        }
        Berth berth = world.berths.get(b);
        int[] all = {berth.depth, berth.kind, berth.depth + world.tide(world.night), world.bitsAt(b), berth.woke};
        return what < 0 || what >= all.length ? BAD : all[what];
    }

    int dream(int d, int what) {
        if (noDream(d)) {
            return UNKNOWN;
        }
        Dream dream = world.dreams.get(d);
        int open = 0;
        for (int b = 0; b < world.berths.size(); b++) {
            open |= dream.where == 8 && world.canBe(d, b) ? 1 << b : 0;
        }
        int[] all = {dream.draught, dream.kind, dream.where, dream.where == 8 ? dream.lain : NONE, open};
        return what < 0 || what >= all.length ? BAD : all[what];
    }

    private void act() {
        acts.addLast(world.copy());
        if (acts.size() > 14) {
            acts.removeFirst();
        }
    }

    int night() {
        act();
        return world.night();
    }

    int moor(int d, int b) {
        if (noDream(d) || noBerth(b)) {
            return UNKNOWN;
        }
        if (!world.copy().moor(d, b)) {
            return LATE;
        }
        act();
        world.moor(d, b);
        return world.in(b);
    }

    int tow(int d) {
        if (noDream(d)) {
            return UNKNOWN;
        }
        int was = world.dreams.get(d).where;
        if (was >= 8) {
            return LATE;
        }
        act();
        world.tow(d);
        return was;
    }

    int undo() {
        if (acts.isEmpty()) {
            return LATE;
        }
        world = acts.removeLast();
        return acts.size();
    }

    int later(int d, int n) {
        return noDream(d) ? UNKNOWN : n < 0 || n > 20 ? BAD : world.in20(n).dreams.get(d).where;
    }

    int wakes(int b, int n) {
        return noBerth(b) ? UNKNOWN : n < 0 || n > 20 ? BAD : world.in20(n).berths.get(b).woke;
    }

    int fits(int d, int n) {
        return noDream(d) ? UNKNOWN : n < 0 || n > 20 ? BAD : world.fits(d, n);
    }

    int soonest(int d) {
        if (noDream(d)) {
            return UNKNOWN;
        }
        if (world.dreams.get(d).where == 9) {
            return LATE;
        }
        for (int n = 0; n <= 20; n++) {
            if (world.fits(d, n) != 0) {
                return n;
            }
        }
        return NONE;
    }

    int plan(boolean way) {
        return world.plan()[way ? 1 : 0];
    }

    int judge(int n, long row) {
        if (n < 1 || n > 4 || row < 0 || Long.toString(row).length() > 3 * n) {
            return BAD;
        }
        String told = String.format("%0" + 3 * n + "d", row);
        World w = world.copy();
        for (int i = 0; i < n; i++) {
            int a = told.charAt(3 * i) - '0';
            int b = told.charAt(3 * i + 1) - '0';
            int c = told.charAt(3 * i + 2) - '0';
            if (!so(w, a, b, c)) {
                return i;
            }
        }
        return NONE;
    }

    private boolean so(World w, int a, int b, int c) {
        if (a == 0 && b == 0 && c == 0) {
            w.night();
            return true;
        }
        if (a == 1) {
            return w.moor(b, c);
        }
        if (a == 2 && b == 0) {
            return w.tow(c);
        }
        if (a == 3 && b == 0) {
            return !noDream(c) && w.dreams.get(c).where == 9;
        }
        if (a == 4) {
            return !noDream(b) && !noBerth(c) && w.dreams.get(b).where == c;
        }
        return a == 5 && !noBerth(b) && w.berths.get(b).woke >= c;
    }

    private int planOf(int come, Map<Integer, Integer> known) {
        return known.computeIfAbsent(come, key -> {
            World w = world.copy();
            for (int b = 0; b < w.berths.size(); b++) {
                w.berths.get(b).come = (key >> b & 1) == 1;
            }
            return w.plan()[0];
        });
    }

    int share(int berth, boolean upper) {
        if (noBerth(berth)) {
            return UNKNOWN;
        }
        int[] sums = new int[2];
        orders(0, berth, sums, new HashMap<>());
        return fraction(sums[0], sums[1], upper);
    }

    /** Lets the berths come in every order that begins with those that have come. */
    private void orders(int come, int berth, int[] sums, Map<Integer, Integer> known) {
        int all = (1 << world.berths.size()) - 1;
        if (come == all) {
            sums[1]++;
        }
        for (int b = 0; b < world.berths.size(); b++) {
            if ((come >> b & 1) == 0) {
                int ordersWere = sums[1];
                orders(come | 1 << b, berth, sums, known);
                if (b == berth) {
                    sums[0] += (sums[1] - ordersWere) * (planOf(come | 1 << b, known) - planOf(come, known));
                }
            }
        }
    }

    private static int fraction(int above, int below, boolean upper) {
        int common = BigInteger.valueOf(above).gcd(BigInteger.valueOf(below)).intValue();
        return upper ? above / common : below / common;
    }

    int sound(int g, int t, int grounded) {
        if (g < 1 || g > 9 || t < 0 || t > 9 || grounded < 0 || grounded > 1) {
            return BAD;
        }
        if (sounded.size() == 6) {
            return FULL;
        }
        sounded.add(new int[] {g, t, grounded});
        return sounded.size();
    }

    int unsound() {
        int was = sounded.size();
        sounded.clear();
        return was;
    }

    int depths(int what) {
        List<Integer> found = new ArrayList<>();
        for (int told = 0; told < 40; told++) {
            if ((told / 10 == 0 || told / 10 == 3) && allSo(told / 10, told % 10)) {
                found.add(told);
            }
        }
        return what == 0 ? found.size() : what == 1 ? found.isEmpty() ? NONE : found.get(0) : BAD;
    }

    private boolean allSo(int kind, int depth) {
        for (int[] s : sounded) {
            int deep = depth;
            for (int n = 0; n < s[1]; n++) {
                deep += kind == 3 && deep < 9 ? 1 : 0;
            }
            boolean grounds = deep + world.tide(s[1]) < s[0];
            if (grounds != (s[2] == 1)) {
                return false;
            }
        }
        return true;
    }

    int rests(int one, int other, int what) {
        if (noDream(one) || noDream(other)) {
            return UNKNOWN;
        }
        if (one == other || what < 0 || what > 1) {
            return BAD;
        }
        if (world.dreams.get(one).where != 8 || world.dreams.get(other).where != 8) {
            return LATE;
        }
        int[][][] has = new int[5][5][];
        for (int a = 0; a < 5; a++) {
            for (int b = 0; b < 5; b++) {
                has[a][b] = both(one, a, other, b);
            }
        }
        List<Integer> found = new ArrayList<>();
        for (int a = 0; a < 5; a++) {
            for (int b = 0; b < 5; b++) {
                boolean rest = true;
                for (int c = 0; c < 5; c++) {
                    rest &= has[c][b][0] <= has[a][b][0] && has[a][c][1] <= has[a][b][1];
                }
                if (rest) {
                    found.add(10 * a + b);
                }
            }
        }
        return what == 0 ? found.size() : found.isEmpty() ? NONE : found.get(0);
    }

    private int[] both(int one, int a, int other, int b) {
        World w = world.copy();
        boolean oneIn = a < w.berths.size() && w.canBe(one, a);
        boolean otherIn = b < w.berths.size() && w.canBe(other, b);
        if (oneIn && otherIn && a == b) {
            World probe = world.copy();
            if (!(probe.moor(one, a) && probe.moor(other, b))) {
                return new int[] {-1, -1};
            }
        }
        if (oneIn) {
            w.dreams.get(one).where = a;
        }
        if (otherIn) {
            w.dreams.get(other).where = b;
        }
        w.night();
        return new int[] {had(w, one, oneIn), had(w, other, otherIn)};
    }

    private static int had(World w, int d, boolean in) {
        return !in ? 0 : w.dreams.get(d).where == 9 ? 3 : -2;
    }

    int ebb(int m, int x, boolean upper) {
        if (m < 0 || m > 5 || x < 0 || x > 10) {
            return BAD;
        }
        int n = world.berths.size();
        int above = 0;
        int below = 0;
        for (int failed = 0; failed < 1 << n; failed++) {
            int weight = 1;
            int[] tideIn = new int[n];
            for (int b = 0; b < n; b++) {
                boolean fails = (failed & 1 << b) != 0;
                weight *= fails ? x : 10 - x;
                tideIn[b] = fails ? 0 : world.tide(world.night);
            }
            below += weight;
            above += world.copy().night(tideIn) >= m ? weight : 0;
        }
        return fraction(above, below, upper);
    }

    long seed(long v) {
        long was = seed;
        seed = v;
        return was;
    }

    int years(int m) {
        if (m < 1 || m > 30) {
            return BAD;
        }
        World w = world.copy();
        BigInteger wrap = BigInteger.ONE.shiftLeft(64);
        int together = 0;
        for (int i = 0; i < m; i++) {
            BigInteger x = BigInteger.valueOf(seed).multiply(new BigInteger("6364136223846793005"))
                .add(new BigInteger("1442695040888963407")).mod(wrap);
            seed = x.longValue();
            int left = x.shiftRight(33).mod(BigInteger.valueOf(32)).intValue();
            if (left <= 19) {
                w.moor(left / 4, left % 4);
            } else if (left <= 24) {
                w.tow(left - 20);
            } else {
                w.night();
            }
            together += Integer.bitCount(w.bitsAt(9));
        }
        return together;
    }

    int keep(int slot) {
        if (slot != 0 && slot != 1) {
            return UNKNOWN;
        }
        slots[slot] = world.copy();
        return world.night;
    }

    int again(int slot) {
        if (slot != 0 && slot != 1) {
            return UNKNOWN;
        }
        if (slots[slot] == null) {
            return LATE;
        }
        world = slots[slot].copy();
        acts.clear();
        return world.night;
    }
}
