import java.util.ArrayList;
import java.util.List;

/**
 * Plays an edge that the document names three times: on a new object; behind calls that change nothing, and
 * behind calls that change all there is, both so late that the last call of the edge is the object's 512th.
 */
final class Edges {
    private static final List<Run.Call> IDLE = Run.read(
        "fault() about(3) undo() write(256) port() berth(0,0) dream(0,0) moor(0,0) tow(0) later(0,0) wakes(0,0)"
        + " fits(0,0) soonest(0) plan(true) plan(false) judge(1,0) share(0,true) sound(0,0,0) unsound() depths(0)"
        + " depths(1) rests(0,1,0) ebb(0,0,true) seed(0) years(0) keep(2) again(0) again(2) wipe() about(12)");
    private static final List<Run.Call> BUSY_PORT = Run.read("anew(HT1T4T0T9B20B31B12B43D30D51D22D93D20)");
    private static final List<Run.Call> BUSY = Run.read(
        "moor(0,0) night() moor(3,2) sound(3,2,1) keep(0) years(30) night() tow(3) moor(4,1) sound(9,9,0) undo()"
        + " moor(2,2) night() keep(1) plan(true) judge(2,101000) night() tow(1) rests(1,2,0) moor(3,3) seed(77)"
        + " share(1,true) ebb(2,3,true) night() later(3,20) night() again(0) fits(1,9) night() night() undo() port()"
        + " sound(1,0,1) moor(3,0) night() night() again(1) night() years(7) wakes(0,20) soonest(3) night() night()");
    private static final List<Run.Call> CLOSING = Run.read("unsound() seed(0)");

    final Check check;
    final Document document;

    Edges(Check check, Document document) {
        this.check = check;
        this.document = document;
    }

    /** A sentence of the document, the port it is tried on ("": a new object, no port), and calls with their dues. */
    void edge(String sentence, String port, String told) {
        document.mark(sentence, check);
        List<Run.Call> list = new ArrayList<>();
        if (!port.isEmpty()) {
            list.addAll(Run.read("anew(" + port + ")"));
        }
        list.addAll(Run.read(told));
        String label = "'" + sentence + "' " + port;
        check.isTrue(label + ": 512 calls at most", Run.size(list) <= Run.MOST_CALLS);
        new Run().play(list, label, check);
        Run idle = new Run();
        lieIdle(idle, Run.size(list));
        idle.play(list, label + " (late)", check);
        if (!port.isEmpty() && Run.size(list) + 100 <= Run.MOST_CALLS) {
            Run busy = new Run();
            keepBusy(busy, Run.size(list));
            busy.play(list, label + " (late, busy ahead)", check);
        }
    }

    /** Calls that leave a new object as it is, till only so many are left. */
    static void lieIdle(Run run, int left) {
        fill(run, IDLE, left);
    }

    /** Calls that change all there is; a new port is as good as the first behind them. */
    static void keepBusy(Run run, int left) {
        makeAll(run, BUSY_PORT);
        fill(run, BUSY, left + CLOSING.size());
        makeAll(run, CLOSING);
    }

    private static void fill(Run run, List<Run.Call> calls, int left) {
        for (int i = 0; run.calls() + left < Run.MOST_CALLS; i++) {
            run.make(calls.get(i % calls.size()));
        }
    }

    private static void makeAll(Run run, List<Run.Call> calls) {
        for (Run.Call call : calls) {
            run.make(call);
        }
    }
}
