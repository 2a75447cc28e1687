/** Counts answers that are not as due, and prints each of them. */
final class Check {
    private final String about;
    private int wrong = 0;
    private int calls = 0;

    Check(String about) {
        this.about = about;
    }

    void due(String what, long got, long want) {
        calls++;
        if (got != want) {
            wrong++;
            System.out.println(about + ": " + what + " answered " + got + ", due is " + want);
        }
    }

    void isTrue(String what, boolean holds) {
        calls++;
        if (!holds) {
            wrong++;
            System.out.println(about + ": " + what + " does not hold");
        }
    }

    boolean hasWrong() {
        return wrong > 0;
    }

    void end() {
        System.out.println(about + ": " + calls + " answers, " + wrong + " wrong");
        if (wrong > 0) {
            System.exit(1);
        }
    }

    /** A new object to which a text has been written, but which has not made it its port. */
    static SleepHarbour written(String text) {
        SleepHarbour x = new SleepHarbour();
        for (int i = 0; i < text.length(); i++) {
            x.write(text.charAt(i));
        }
        return x;
    }

    /** A new object whose port is this text. */
    static SleepHarbour ported(String text) {
        SleepHarbour x = written(text);
        if (x.port() < 0) {
            throw new IllegalStateException("no port: " + text);
        }
        return x;
    }
}
