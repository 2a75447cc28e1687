import java.util.ArrayList;
import java.util.List;
import java.util.Set;
import java.util.TreeSet;

/**
 * Each refusal that a promise names, and that nothing has changed by it; nor by a question. Two objects are led
 * to the same place, one of them is refused (or asked), and then both must answer alike in all that can be read.
 */
final class Refusals {
    /** Dream 0 is dreamt, 2 and 3 are berthed in the double, 1 (a nightmare) and 4 lie off; six acts, both slots kept. */
    private static final String BUSY = "anew(HT1T4B20B31B12B43D30D51D22D93D20) sound(3,1,0) sound(9,2,1) seed(77) moor(0,0)=1 moor(3,2)=1"
        + " keep(0)=0 night()=1 moor(2,2)=2 tow(2)=2 moor(2,2)=2 keep(1)=1 ";
    private static final String NO_ACTS = BUSY + "again(1)=1 ";
    private static final String NONE_KEPT = "anew(HT1T4B20B31D30D51) moor(0,0)=1 night()=1 ";
    private static final String FULL_ROW = "anew(HB00B50D90D10) moor(0,0)=1 16*night() moor(1,1)=1 about(9)=14 ";
    private static final String FULL_TEXT = BUSY + "wipe() 48*write(72) ";
    private static final String FULL_SOUNDED = BUSY + "4*sound(3,1,0) about(10)=6 ";
    private static final String[] SETUPS = {BUSY, NO_ACTS, NONE_KEPT, FULL_ROW, FULL_TEXT, FULL_SOUNDED, ""};

    private static final String BRIEF = " about(3) about(5) about(8) about(9)" + each("dream(%,0) dream(%,2) dream(%,3)", 5)
        + each("berth(%,0) berth(%,4)", 4);
    private static final String ALL = each("about(%)", 12) + each("berth(0,%) berth(1,%) berth(2,%) berth(3,%)", 5)
        + each("dream(0,%) dream(1,%) dream(2,%) dream(3,%) dream(4,%)", 5) + " fault() plan(false) plan(true) depths(0) depths(1)"
        + " seed(0)";
    private static final String[] PROBES = {
        ALL,
        each("undo()" + BRIEF, 7),
        each("undo() about(3) about(5) about(6) about(8) about(9)", 16),
        "again(0)" + BRIEF + " again(1)" + BRIEF + " undo()",
        "say(T3) fault() port()" + BRIEF + " again(0) again(1)",
        "port()" + ALL,
        each("sound(5,%,0) about(10) depths(0) depths(1)", 7) + " unsound()",
        "years(30) seed(1)" + each("later(%,1) later(%,20) fits(%,3) soonest(%)", 5) + each("wakes(%,20) share(%,true)", 4),
        each("night()" + BRIEF, 5)};

    private final Edges edges;
    private final Set<String> seen = new TreeSet<>();

    Refusals(Edges edges) {
        this.edges = edges;
    }

    void play() {
        edges.document.mark("In what follows nothing is changed.", edges.check);
        edges.document.mark("REFUSALS: UNKNOWN -1 (there is no such BERTH, DREAM, SLOT), BAD -2, LATE -3, FULL -4. Of several what is"
            + " told first. What is refused changes nothing. NONE is -9.", edges.check);
        ofTheText();
        ofThePort();
        ofActs();
        ofNightsToCome();
        ofChances();
        ofSlots();
        ofSeveral();
        ofAFullRow();
        questions();
        requireAll();
    }

    /** The same calls for 0, 1, .., in place of each %. */
    private static String each(String calls, int below) {
        StringBuilder told = new StringBuilder();
        for (int i = 0; i < below; i++) {
            told.append(' ').append(calls.replace("%", "" + i));
        }
        return told.toString();
    }

    private void refused(int promise, String due, String setup, String... calls) {
        seen.add(promise + " " + due);
        for (String call : calls) {
            String told = call + "=" + due;
            for (String probe : PROBES) {
                same(setup, told, probe);
                same(setup, told + " " + told, probe);
            }
        }
    }

    /** What is called makes no difference to what is read behind it, early or late. */
    private void same(String setup, String calls, String probe) {
        for (int late = 0; late < 2; late++) {
            Run with = new Run();
            Run without = new Run();
            List<Run.Call> read = Run.read(probe);
            int size = Run.size(Run.read(setup)) + Run.size(Run.read(calls)) + Run.size(read);
            String label = "unchanged by " + calls + (late == 1 ? " (late)" : "") + " behind " + setup;
            edges.check.isTrue(label + ": 512 calls at most", size <= Run.MOST_CALLS);
            if (late == 1) {
                Edges.lieIdle(with, size);
                Edges.lieIdle(without, size);
            }
            with.play(setup + calls, label, edges.check);
            without.play(setup, label, edges.check);
            for (Run.Call call : read) {
                edges.check.due(label + ": then " + call, with.make(call), without.make(call));
            }
        }
    }

    private void ofTheText() {
        for (String setup : new String[] {BUSY, "", "say(HT) "}) {
            refused(2, "BAD", setup, "write(-1)", "write(256)", "write(MIN)", "write(MAX)", "write(328)");
        }
        refused(2, "FULL", FULL_TEXT, "write(0)", "write(72)", "write(255)");
        refused(2, "FULL", "48*write(84) ", "write(0)", "write(255)");
        for (String fault : new String[] {"say(X) ", "say(T) ", "say(B1) ", "wipe() ", "wipe() say(T) "}) {
            refused(5, "LATE", BUSY + fault, "port()");
        }
        refused(5, "LATE", "", "port()");
        refused(5, "LATE", FULL_TEXT, "port()");
    }

    private void ofThePort() {
        refused(6, "BAD", BUSY, "about(-1)", "about(12)", "about(MIN)", "about(MAX)");
        refused(7, "UNKNOWN", BUSY, "berth(-1,0)", "berth(4,0)", "berth(MIN,0)", "berth(MAX,0)");
        refused(7, "BAD", BUSY, "berth(0,-1)", "berth(3,5)", "berth(0,MIN)", "berth(0,MAX)");
        refused(8, "UNKNOWN", BUSY, "dream(-1,0)", "dream(5,0)", "dream(MIN,0)", "dream(MAX,0)");
        refused(8, "BAD", BUSY, "dream(0,-1)", "dream(4,5)", "dream(0,MIN)", "dream(0,MAX)");
    }

    private void ofActs() {
        refused(10, "UNKNOWN", BUSY, "moor(-1,0)", "moor(5,0)", "moor(MIN,0)", "moor(MAX,0)", "moor(1,-1)", "moor(1,4)", "moor(1,MIN)",
            "moor(1,MAX)", "moor(4,8)");
        refused(10, "LATE", BUSY, "moor(0,0)", "moor(0,2)", "moor(2,0)", "moor(2,2)", "moor(3,0)", "moor(1,1)", "moor(1,2)", "moor(4,2)");
        refused(10, "LATE", "anew(HB91B00D40D31D20D10) moor(2,1) ", "moor(0,0)", "moor(1,0)", "moor(3,1)");
        refused(11, "UNKNOWN", BUSY, "tow(-1)", "tow(5)", "tow(MIN)", "tow(MAX)");
        refused(11, "LATE", BUSY, "tow(0)", "tow(1)", "tow(4)");
        refused(12, "LATE", NO_ACTS, "undo()");
        refused(12, "LATE", BUSY + "port()=245 ", "undo()");
        refused(12, "LATE", BUSY + "6*undo() about(9)=0 ", "undo()");
        refused(12, "LATE", "", "undo()");
    }

    private void ofNightsToCome() {
        for (String call : new String[] {"later", "fits"}) {
            int promise = call.equals("later") ? 13 : 15;
            refused(promise, "UNKNOWN", BUSY, call + "(-1,0)", call + "(5,0)", call + "(MIN,0)", call + "(MAX,20)");
            refused(promise, "BAD", BUSY, call + "(0,-1)", call + "(4,21)", call + "(0,MIN)", call + "(0,MAX)");
        }
        refused(14, "UNKNOWN", BUSY, "wakes(-1,0)", "wakes(4,0)", "wakes(MIN,0)", "wakes(MAX,20)");
        refused(14, "BAD", BUSY, "wakes(0,-1)", "wakes(3,21)", "wakes(0,MIN)", "wakes(0,MAX)");
        refused(16, "UNKNOWN", BUSY, "soonest(-1)", "soonest(5)", "soonest(MIN)", "soonest(MAX)");
        refused(16, "LATE", BUSY, "soonest(0)");
        refused(18, "BAD", BUSY, "judge(0,0)", "judge(5,0)", "judge(-1,0)", "judge(MIN,0)", "judge(MAX,0)", "judge(1,-1)", "judge(1,1000)",
            "judge(2,1000000)", "judge(3,1000000000)", "judge(4,1000000000000)", "judge(4,MOST)", "judge(4,LEAST)");
        refused(19, "UNKNOWN", BUSY, "share(-1,true)", "share(4,true)", "share(4,false)", "share(MIN,true)", "share(MAX,false)");
    }

    private void ofChances() {
        String[] wrong = {"sound(0,0,0)", "sound(10,0,0)", "sound(MIN,0,0)", "sound(MAX,0,0)", "sound(1,-1,0)", "sound(1,10,0)",
            "sound(1,MIN,0)", "sound(1,MAX,0)", "sound(1,0,-1)", "sound(1,0,2)", "sound(1,0,MIN)", "sound(1,0,MAX)"};
        refused(20, "BAD", BUSY, wrong);
        refused(20, "FULL", FULL_SOUNDED, "sound(1,0,0)", "sound(9,9,1)");
        refused(22, "BAD", BUSY, "depths(-1)", "depths(2)", "depths(MIN)", "depths(MAX)");
        refused(23, "UNKNOWN", BUSY, "rests(-1,1,0)", "rests(1,-1,0)", "rests(5,1,0)", "rests(1,5,0)", "rests(MIN,MAX,1)");
        refused(23, "BAD", BUSY, "rests(1,1,0)", "rests(4,4,1)", "rests(1,4,-1)", "rests(1,4,2)", "rests(1,4,MIN)", "rests(1,4,MAX)");
        refused(23, "LATE", BUSY, "rests(0,1,0)", "rests(1,0,1)", "rests(2,4,0)", "rests(4,3,1)", "rests(0,2,0)");
        refused(24, "BAD", BUSY, "ebb(-1,0,true)", "ebb(6,0,true)", "ebb(MIN,0,true)", "ebb(MAX,0,false)", "ebb(0,-1,true)",
            "ebb(0,11,true)", "ebb(0,MIN,false)", "ebb(0,MAX,false)");
        refused(26, "BAD", BUSY, "years(-1)", "years(0)", "years(31)", "years(MIN)", "years(MAX)");
    }

    private void ofSlots() {
        for (String setup : new String[] {BUSY, NONE_KEPT, ""}) {
            refused(27, "UNKNOWN", setup, "keep(-1)", "keep(2)", "keep(MIN)", "keep(MAX)");
            refused(28, "UNKNOWN", setup, "again(-1)", "again(2)", "again(MIN)", "again(MAX)");
        }
        refused(28, "LATE", NONE_KEPT, "again(0)", "again(1)");
        refused(28, "LATE", NONE_KEPT + "keep(0) ", "again(1)");
        refused(28, "LATE", NONE_KEPT + "keep(1) night() ", "again(0)");
        refused(28, "LATE", BUSY + "port()=245 ", "again(0)", "again(1)");
        refused(28, "LATE", "", "again(0)", "again(1)");
    }

    /** "Of several what is told first": UNKNOWN ahead of BAD ahead of LATE, BAD ahead of FULL. */
    private void ofSeveral() {
        refused(2, "BAD", FULL_TEXT, "write(-1)", "write(256)");
        refused(7, "UNKNOWN", BUSY, "berth(4,5)", "berth(-1,-1)");
        refused(8, "UNKNOWN", BUSY, "dream(5,5)", "dream(-1,-1)");
        refused(10, "UNKNOWN", BUSY, "moor(0,4)", "moor(2,-1)", "moor(5,2)", "moor(5,4)");
        refused(13, "UNKNOWN", BUSY, "later(5,21)", "later(-1,-1)");
        refused(14, "UNKNOWN", BUSY, "wakes(4,21)", "wakes(-1,-1)");
        refused(15, "UNKNOWN", BUSY, "fits(5,21)", "fits(-1,-1)");
        refused(18, "BAD", BUSY, "judge(0,-1)", "judge(5,MOST)");
        refused(20, "BAD", FULL_SOUNDED, "sound(0,0,0)", "sound(10,0,0)", "sound(1,-1,0)", "sound(1,10,0)", "sound(1,0,2)", "sound(0,10,2)");
        refused(23, "UNKNOWN", BUSY, "rests(5,5,0)", "rests(5,1,2)", "rests(0,5,0)", "rests(5,0,2)", "rests(-1,-1,-1)");
        refused(23, "BAD", BUSY, "rests(0,0,0)", "rests(2,2,2)", "rests(0,1,2)", "rests(1,3,-1)");
        refused(24, "BAD", BUSY, "ebb(6,11,true)", "ebb(-1,-1,false)");
        refused(28, "UNKNOWN", NONE_KEPT, "again(2)", "again(-1)");
    }

    /** Of 14 acts the first must not be forgotten by one that is refused. */
    private void ofAFullRow() {
        refused(10, "LATE", FULL_ROW, "moor(0,0)", "moor(0,1)", "moor(1,0)");
        refused(10, "UNKNOWN", FULL_ROW, "moor(2,0)", "moor(0,2)");
        refused(11, "LATE", FULL_ROW + "night()=1 ", "tow(1)");
        refused(11, "UNKNOWN", FULL_ROW, "tow(2)", "tow(-1)");
        refused(28, "LATE", FULL_ROW, "again(0)");
        refused(5, "LATE", FULL_ROW + "say(X) ", "port()");
    }

    private void questions() {
        List<String> asked = new ArrayList<>(List.of("fault()", "plan(true)", "plan(false)", "depths(0)", "depths(1)",
            "judge(4,101000000143)", "judge(3,202203000)", "judge(1,0)", "judge(2,141999)", "rests(1,4,0)", "rests(4,1,1)",
            "rests(0,1,0)", "ebb(1,5,true)", "ebb(5,10,false)", "years(30) seed(77)", "years(1) seed(77)"));
        for (int i = 0; i < 5; i++) {
            asked.add("later(" + i + ",20) later(" + i + ",1) later(" + i + ",0)");
            asked.add("fits(" + i + ",20) fits(" + i + ",0) soonest(" + i + ")");
            asked.add("wakes(" + i + ",20) wakes(" + i + ",0) share(" + i + ",true) share(" + i + ",false)");
            asked.add("about(" + i + ") berth(" + i + "," + i + ") dream(" + i + "," + i + ")");
        }
        for (String setup : SETUPS) {
            String reseeded = setup.contains("seed(77)") ? setup : setup + "seed(77) ";
            for (String call : asked) {
                for (String probe : PROBES) {
                    same(reseeded, call, probe);
                }
            }
        }
    }

    /** Each refusal that the document names in a promise must be among those that were tried. */
    private void requireAll() {
        for (int promise = 1; promise <= 28; promise++) {
            for (String word : new String[] {"UNKNOWN", "BAD", "LATE", "FULL"}) {
                boolean named = edges.document.promise(promise).matches(".*\\b" + word + "\\b.*");
                edges.check.isTrue("promise " + promise + ", " + word + ": tried if it is named",
                    named == seen.contains(promise + " " + word));
            }
        }
    }
}
