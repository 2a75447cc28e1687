import java.util.Random;

/** Long runs of calls, each answered by the class and by the model; the same runs every time. */
public final class ModelTest {
    private static final int RUNS = 1500;
    private static final int CALLS = 512;

    private final Check check = new Check("ModelTest");
    private final Random random;
    private final SleepHarbour x = new SleepHarbour();
    private final Model m = new Model();
    private final StringBuilder told = new StringBuilder();
    private int left = CALLS;

    private ModelTest(long seed) {
        random = new Random(seed);
    }

    public static void main(String[] args) {
        long calls = 0;
        for (int run = 0; run < RUNS; run++) {
            ModelTest test = new ModelTest(run);
            test.run();
            calls += CALLS;
            if (test.check.hasWrong()) {
                System.out.println("ModelTest: run " + run + ":\n" + test.told);
                System.exit(1);
            }
        }
        System.out.println("ModelTest: " + calls + " calls as the model answers them");
    }

    private void run() {
        if (random.nextInt(10) > 0) {
            makePort();
        }
        while (left > 0 && !check.hasWrong()) {
            step();
        }
    }

    private void same(String call, long got, long want) {
        left--;
        told.append("  ").append(call).append(" -> ").append(got).append('\n');
        check.due(call, got, want);
    }

    private void write(int letter) {
        same("write(" + letter + ")", x.write(letter), m.write(letter));
    }

    private void makePort() {
        same("wipe()", x.wipe(), m.wipe());
        StringBuilder s = new StringBuilder("H");
        int things = random.nextInt(14);
        int richness = random.nextInt(3);
        for (int i = 0; i < things; i++) {
            int which = random.nextInt(richness == 0 ? 3 : 7);
            s.append(which == 0 ? "T" + random.nextInt(richness == 1 ? 4 : 10)
                : which < 3 ? "B" + random.nextInt(7) + random.nextInt(4)
                : "D" + (1 + random.nextInt(random.nextBoolean() ? 9 : 4)) + random.nextInt(4));
        }
        if (random.nextInt(12) == 0) {
            s.setCharAt(random.nextInt(s.length()), (char) random.nextInt(256));
        }
        if (random.nextInt(12) == 0) {
            s.setLength(random.nextInt(s.length()));
        }
        for (int i = 0; i < s.length(); i++) {
            write(s.charAt(i));
        }
        same("fault()", x.fault(), m.fault());
        same("port()", x.port(), m.port());
    }

    /** A number of a small range, and now and then one at its edges or far outside. */
    private int number(int below) {
        int odd = random.nextInt(60);
        int[] wrong = {-1, below, Integer.MIN_VALUE, Integer.MAX_VALUE};
        return odd < 4 ? wrong[odd] : random.nextInt(below);
    }

    private void step() {
        int which = random.nextInt(100);
        if (which < 2) {
            steerText();
        } else if (which < 45) {
            act();
        } else if (which < 65) {
            ask();
        } else if (which < 83) {
            lookAhead();
        } else {
            weigh();
        }
    }

    private void steerText() {
        int which = random.nextInt(12);
        if (which == 0) {
            makePort();
        } else if (which < 6) {
            write(number(256));
        } else if (which == 6) {
            for (int i = 0; i < 60; i++) {
                write("HTBD0123".charAt(random.nextInt(8)));
            }
        } else if (which == 7) {
            same("wipe()", x.wipe(), m.wipe());
        } else {
            same("port()", x.port(), m.port());
        }
        same("fault()", x.fault(), m.fault());
    }

    private void act() {
        int which = random.nextInt(20);
        int d = number(5);
        int b = number(4);
        if (which < 7) {
            same("moor(" + d + ", " + b + ")", x.moor(d, b), m.moor(d, b));
        } else if (which < 10) {
            same("tow(" + d + ")", x.tow(d), m.tow(d));
        } else if (which < 14) {
            same("night()", x.night(), m.night());
        } else if (which < 17) {
            same("undo()", x.undo(), m.undo());
        } else if (which < 18) {
            int s = number(2);
            same("keep(" + s + ")", x.keep(s), m.keep(s));
        } else {
            int s = number(2);
            same("again(" + s + ")", x.again(s), m.again(s));
        }
    }

    private void ask() {
        int what = number(12);
        same("about(" + what + ")", x.about(what), m.about(what));
        int b = number(4);
        what = number(5);
        same("berth(" + b + ", " + what + ")", x.berth(b, what), m.berth(b, what));
        int d = number(5);
        what = number(5);
        same("dream(" + d + ", " + what + ")", x.dream(d, what), m.dream(d, what));
    }

    private void lookAhead() {
        int n = number(21);
        int d = number(5);
        int b = number(4);
        switch (random.nextInt(5)) {
            case 0 -> same("later(" + d + ", " + n + ")", x.later(d, n), m.later(d, n));
            case 1 -> same("wakes(" + b + ", " + n + ")", x.wakes(b, n), m.wakes(b, n));
            case 2 -> same("fits(" + d + ", " + n + ")", x.fits(d, n), m.fits(d, n));
            case 3 -> same("soonest(" + d + ")", x.soonest(d), m.soonest(d));
            default -> judge();
        }
    }

    private void judge() {
        int n = 1 + number(4);
        long row = 0;
        for (int i = 0; i < n && i < 4; i++) {
            int kind = random.nextInt(7) % 6;
            int second = kind == 1 || kind >= 4 || random.nextInt(20) == 0 ? random.nextInt(5) : 0;
            int third = kind == 0 ? random.nextInt(20) / 19 : random.nextInt(random.nextInt(10) == 0 ? 10 : 4);
            row = row * 1000 + 100 * kind + 10 * second + third;
        }
        if (random.nextInt(20) == 0) {
            row = random.nextBoolean() ? random.nextLong() : row * 10;
        }
        same("judge(" + n + ", " + row + ")", x.judge(n, row), m.judge(n, row));
    }

    private void weigh() {
        int which = random.nextInt(40);
        boolean upper = random.nextBoolean();
        if (which == 0) {
            int b = number(4);
            same("share(" + b + ", true)", x.share(b, true), m.share(b, true));
            same("share(" + b + ", false)", x.share(b, false), m.share(b, false));
        } else if (which < 3) {
            same("plan(" + upper + ")", x.plan(upper), m.plan(upper));
        } else if (which < 12) {
            int one = number(5);
            int other = number(5);
            int what = number(2);
            same("rests(" + one + ", " + other + ", " + what + ")",
                x.rests(one, other, what), m.rests(one, other, what));
        } else if (which < 22) {
            int count = number(6);
            int tenths = number(11);
            same("ebb(" + count + ", " + tenths + ", " + upper + ")",
                x.ebb(count, tenths, upper), m.ebb(count, tenths, upper));
        } else if (which < 29) {
            chance();
        } else {
            soundings();
        }
    }

    private void chance() {
        int n = 1 + number(30);
        same("years(" + n + ")", x.years(n), m.years(n));
        if (random.nextInt(3) == 0) {
            long v = random.nextBoolean() ? random.nextLong() : random.nextInt(20);
            same("seed(" + v + ")", x.seed(v), m.seed(v));
        }
    }

    private void soundings() {
        int g = 1 + number(9);
        int t = number(10);
        int grounded = number(2);
        if (random.nextInt(6) == 0) {
            same("unsound()", x.unsound(), m.unsound());
        }
        same("sound(" + g + ", " + t + ", " + grounded + ")", x.sound(g, t, grounded), m.sound(g, t, grounded));
        int what = number(2);
        same("depths(" + what + ")", x.depths(what), m.depths(what));
    }
}
