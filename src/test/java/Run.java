import java.util.ArrayList;
import java.util.List;

/**
 * One object and the calls that are made on it, told as text: "moor(0,1)=1 3*night() undo()=LATE".
 * A number and a star say how often; behind = stands the answer that is due, if one is.
 * say(..) writes each letter, anew(..) wipes, writes each letter and makes the port.
 */
final class Run {
    /** What the document promises holds for so many calls of an object. */
    static final int MOST_CALLS = 512;

    private final SleepHarbour x = new SleepHarbour();
    private int calls = 0;

    /** One call as it is told: its name, what is handed to it, what is due (null: any answer). */
    record Call(String name, String handed, String due) {
        int size() {
            return name.equals("say") ? handed.length() : name.equals("anew") ? handed.length() + 2 : 1;
        }

        @Override
        public String toString() {
            return name + "(" + handed + ")";
        }
    }

    static List<Call> read(String told) {
        List<Call> list = new ArrayList<>();
        for (String word : told.strip().split("\\s+")) {
            if (!word.isEmpty()) {
                int star = word.indexOf('*');
                int times = star < 0 ? 1 : Integer.parseInt(word.substring(0, star));
                int open = word.indexOf('(');
                int close = word.lastIndexOf(')');
                String due = close + 1 < word.length() ? word.substring(close + 2) : null;
                Call call = new Call(word.substring(star + 1, open), word.substring(open + 1, close), due);
                for (int i = 0; i < times; i++) {
                    list.add(call);
                }
            }
        }
        return list;
    }

    static int size(List<Call> list) {
        int sum = 0;
        for (Call call : list) {
            sum += call.size();
        }
        return sum;
    }

    int calls() {
        return calls;
    }

    /** Plays calls; each answer that is due is looked at. */
    void play(List<Call> list, String label, Check check) {
        for (Call call : list) {
            long got = make(call);
            if (call.due() != null) {
                check.due(label + ": call " + calls + ", " + call, got, number(call.due()));
            }
        }
    }

    void play(String told, String label, Check check) {
        play(read(told), label, check);
    }

    long make(Call call) {
        if (call.name().equals("say")) {
            return say(call.handed());
        }
        if (call.name().equals("anew")) {
            calls += 2;
            x.wipe();
            say(call.handed());
            int port = x.port();
            if (port < 0) {
                throw new IllegalStateException("no port: " + call.handed());
            }
            return port;
        }
        calls++;
        String[] words = call.handed().isEmpty() ? new String[0] : call.handed().split(",");
        long[] a = new long[3];
        for (int i = 0; i < words.length; i++) {
            a[i] = number(words[i]);
        }
        return answer(call.name(), words.length, a);
    }

    private long say(String text) {
        long last = 0;
        for (int i = 0; i < text.length(); i++) {
            calls++;
            last = x.write(text.charAt(i));
        }
        return last;
    }

    static long number(String word) {
        switch (word) {
            case "UNKNOWN": return -1;
            case "BAD": return -2;
            case "LATE": return -3;
            case "FULL": return -4;
            case "NONE": return -9;
            case "MIN": return Integer.MIN_VALUE;
            case "MAX": return Integer.MAX_VALUE;
            case "LEAST": return Long.MIN_VALUE;
            case "MOST": return Long.MAX_VALUE;
            case "true": return 1;
            case "false": return 0;
            default: return Long.parseLong(word);
        }
    }

    private long answer(String name, int handed, long[] a) {
        int p = (int) a[0];
        int q = (int) a[1];
        int r = (int) a[2];
        switch (name + handed) {
            case "write1": return x.write(p);
            case "wipe0": return x.wipe();
            case "fault0": return x.fault();
            case "port0": return x.port();
            case "about1": return x.about(p);
            case "berth2": return x.berth(p, q);
            case "dream2": return x.dream(p, q);
            case "night0": return x.night();
            case "moor2": return x.moor(p, q);
            case "tow1": return x.tow(p);
            case "undo0": return x.undo();
            case "later2": return x.later(p, q);
            case "wakes2": return x.wakes(p, q);
            case "fits2": return x.fits(p, q);
            case "soonest1": return x.soonest(p);
            case "plan1": return x.plan(p == 1);
            case "judge2": return x.judge(p, a[1]);
            case "share2": return x.share(p, q == 1);
            case "sound3": return x.sound(p, q, r);
            case "unsound0": return x.unsound();
            case "depths1": return x.depths(p);
            case "rests3": return x.rests(p, q, r);
            case "ebb3": return x.ebb(p, q, r == 1);
            case "seed1": return x.seed(a[0]);
            case "years1": return x.years(p);
            case "keep1": return x.keep(p);
            case "again1": return x.again(p);
            default: throw new IllegalArgumentException("no such call: " + name + " of " + handed);
        }
    }
}
