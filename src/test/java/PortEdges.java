/** Edges of what a text tells and of the port that is made of it: terms 1, promises 1 to 8. */
final class PortEdges {
    private static final String WIDEST = "HT0T1T2T3B00B10B20B30D10D20D30D40D50";
    private final Edges edges;

    PortEdges(Edges edges) {
        this.edges = edges;
    }

    void play() {
        counts();
        bytes();
        things();
        figures();
        faults();
        everyByte();
        atFirst();
        madeAnew();
        tides();
        water();
        asked();
    }

    private void edge(String sentence, String port, String told) {
        edges.edge(sentence, port, told);
    }

    private void counts() {
        edge("BERTHS are 0, 1, ..", "HB00B11B22B33", "berth(-1,0)=UNKNOWN berth(0,0)=0 berth(1,0)=1 berth(2,0)=2 berth(3,0)=3 berth(4,0)=UNKNOWN");
        String berths = "(4 at most), DREAMS 0, 1, ..";
        edge(berths, "HB00B10B20", "about(1)=3 berth(2,0)=2 berth(3,0)=UNKNOWN say(B) fault()=11 say(30) fault()=NONE");
        edge(berths, "HB00B10B20B30", "about(1)=4 berth(0,0)=0 berth(3,0)=3 berth(4,0)=UNKNOWN fault()=NONE");
        edge(berths, "HB00B10B20B30", "say(B) fault()=13 port()=LATE say(40) fault()=13 port()=LATE about(1)=4");
        edge(berths, "H", "about(1)=0 berth(0,0)=UNKNOWN");
        String dreams = "DREAMS 0, 1, .. (5 at most)";
        edge(dreams, "HD10D20D30D40", "about(2)=4 dream(3,0)=4 dream(4,0)=UNKNOWN say(D) fault()=14 say(50) fault()=NONE");
        edge(dreams, "HD10D20D30D40D50", "about(2)=5 dream(0,0)=1 dream(4,0)=5 dream(5,0)=UNKNOWN fault()=NONE");
        edge(dreams, "HD10D20D30D40D50", "say(D) fault()=16 port()=LATE say(60) fault()=16 port()=LATE about(2)=5");
        edge(dreams, "H", "about(2)=0 dream(0,0)=UNKNOWN");
        edge(dreams, WIDEST, "about(0)=4 about(1)=4 about(2)=5 about(11)=36");
    }

    private void bytes() {
        StringBuilder told = new StringBuilder();
        for (int i = 1; i <= 48; i++) {
            told.append("write(84)=").append(i).append(" about(11)=").append(i).append(' ');
        }
        String most = "THE TEXT is bytes (48 at most)";
        edge(most, "", told + "write(84)=FULL about(11)=48 write(0)=FULL wipe()=48 about(11)=0 write(72)=1 fault()=NONE");
        edge(most, "", "say(" + WIDEST + "TTTTTTTTTTT) about(11)=47 write(68)=48 write(68)=FULL fault()=36 port()=LATE");
        String write = "A byte (0 .. 255) comes behind THE TEXT: how long it is. BAD; FULL: there are 48.";
        edge(write, "", "write(-1)=BAD write(0)=1 write(1)=2 write(254)=3 write(255)=4 write(256)=BAD about(11)=4");
        edge(write, "", "write(MIN)=BAD write(MAX)=BAD write(328)=BAD write(-184)=BAD wipe()=0");
        edge(write, "", "47*write(9) write(256)=BAD write(0)=48 write(256)=BAD write(-1)=BAD write(0)=FULL write(255)=FULL");
        String wipe = "THE TEXT is empty: how long it was.";
        edge(wipe, "", "wipe()=0 write(72)=1 wipe()=1 wipe()=0 48*write(72) wipe()=48 about(11)=0 fault()=0 port()=LATE");
        edge(wipe, "HT7B30D20", "moor(0,0)=1 wipe()=9 about(4)=7 about(6)=1 about(9)=1 undo()=0 write(72)=1 about(1)=1");
    }

    private void things() {
        String things = "A PORT is a TEXT: H, then THINGS, none or more, numbered as they are told, each kind for itself";
        edge(things, "", "say(H) fault()=NONE port()=0 about(0)=0 about(1)=0 about(2)=0 night()=0");
        edge(things, "HD10B20T3D21B43T5D32",
            "dream(0,0)=1 dream(1,0)=2 dream(2,0)=3 dream(0,1)=0 dream(1,1)=1 dream(2,1)=2 dream(3,0)=UNKNOWN"
            + " berth(0,0)=2 berth(1,0)=4 berth(0,1)=0 berth(1,1)=3 berth(2,0)=UNKNOWN"
            + " about(0)=2 about(4)=3 night()=0 about(4)=5 night() about(4)=3");
        edge(things, "", "say(T3) fault()=0 port()=LATE wipe() say(h) fault()=0 wipe() say(HH) fault()=1 port()=LATE");
    }

    /** Each figure at its least and most, and one beyond on either side. */
    private void figures() {
        String tide = "Tt a TIDE of t (0 .. 9), of a night (4 at most)";
        for (int t = 0; t <= 9; t++) {
            edge(tide, "HT" + t, "fault()=NONE about(0)=1 about(4)=" + t);
        }
        edge(tide, "", "say(HT/) fault()=2 port()=LATE wipe() say(HT:) fault()=2 port()=LATE wipe() say(HT9) port()=100");
        edge(tide, "HT1T2T3", "about(0)=3 say(T) fault()=8 say(4) fault()=NONE port()=400");
        edge(tide, "HT1T2T3T4", "about(0)=4 say(T) fault()=9 port()=LATE say(5) fault()=9 port()=LATE about(0)=4");
        String berth = "Bdk a BERTH of DEPTH d (0 .. 9), of KIND k (0 PLAIN, 1 CHILD, 2 DOUBLE, 3 DREDGED)";
        for (int d = 0; d <= 9; d++) {
            for (int k = 0; k <= 3; k++) {
                edge(berth, "HB" + d + k, "fault()=NONE berth(0,0)=" + d + " berth(0,1)=" + k);
            }
        }
        edge(berth, "", "say(HB/0) fault()=2 wipe() say(HB:0) fault()=2 wipe() say(HB0/) fault()=3 wipe() say(HB04) fault()=3");
        edge(berth, "", "say(HB94) fault()=3 port()=LATE wipe() say(HB9) fault()=3 say(3) fault()=NONE port()=10");
        String dream = "Dgk a DREAM of DRAUGHT g (1 .. 9), of KIND k (0 PLAIN, 1 NIGHTMARE, 2 BARGE, 3 WRECK)";
        for (int g = 1; g <= 9; g++) {
            for (int k = 0; k <= 3; k++) {
                edge(dream, "HD" + g + k, "fault()=NONE dream(0,0)=" + g + " dream(0,1)=" + k);
            }
        }
        edge(dream, "", "say(HD00) fault()=2 port()=LATE wipe() say(HD:0) fault()=2 wipe() say(HD/0) fault()=2");
        edge(dream, "", "say(HD1/) fault()=3 wipe() say(HD14) fault()=3 port()=LATE wipe() say(HD9) fault()=3 say(3) port()=1");
    }

    private void faults() {
        String first = "FAULT: the place of the first byte by which THE TEXT can be no PORT, whatever came behind it"
            + " (its length set aside)";
        edge(first, "", "say(X) fault()=0 say(HT1B20) fault()=0 port()=LATE");
        edge(first, "", "say(HT1B94) fault()=5 say(B20D10) fault()=5 say(X) fault()=5 port()=LATE");
        edge(first, "", "say(HT1B2) fault()=5 say(T) fault()=5 say(X) fault()=5");
        edge(first, "", "say(" + WIDEST + ") fault()=NONE say(T) fault()=36 11*write(0) fault()=36 write(0)=FULL fault()=36");
        edge(first, "", "say(" + WIDEST + ") port()=445 say(D) fault()=36 port()=LATE about(2)=5");
        String length = "its length, if it is only not at its end";
        edge(length, "", "fault()=0 port()=LATE say(H) fault()=NONE say(T) fault()=2 port()=LATE say(5) fault()=NONE");
        edge(length, "", "say(HB) fault()=2 port()=LATE say(5) fault()=3 port()=LATE say(3) fault()=NONE port()=10");
        edge(length, "", "say(HD) fault()=2 port()=LATE say(5) fault()=3 port()=LATE say(3) fault()=NONE port()=1");
        edge(length, "HT1B20", "say(D) fault()=7 say(9) fault()=8 port()=LATE say(0) fault()=NONE port()=111");
        edge("NONE: none. At first there is nothing.", "H", "fault()=NONE say(T4) fault()=NONE say(B10) fault()=NONE");
        String fault = "`int fault()`: FAULT; NONE.";
        edge(fault, "", "fault()=0 say(H) fault()=NONE fault()=NONE say(X) fault()=1 fault()=1 wipe() fault()=0");
        String port = "LATE: a FAULT.";
        edge(port, "", "port()=LATE say(H) port()=0 port()=0 say(B) port()=LATE say(1) port()=LATE say(3) port()=10");
        edge("(no ACTS; what was kept is gone; SOUNDED, THE SEED stay): 100 times TIDES, 10 times BERTHS, and DREAMS. LATE: a FAULT.",
            "HT3B20D90",
            "moor(0,0)=1 night()=0 keep(0)=1 keep(1)=1 sound(4,0,1)=1 seed(5)=0 about(9)=2 port()=111 about(9)=0 undo()=LATE"
            + " again(0)=LATE again(1)=LATE about(10)=1 depths(0)=2 seed(0)=5 about(11)=9 keep(0)=0 again(0)=0 again(1)=LATE");
        edge(port, "HT3B20D90",
            "moor(0,0)=1 night()=0 keep(0)=1 say(T) port()=LATE about(9)=2 about(3)=1 berth(0,3)=1 about(8)=1 again(0)=1");
    }

    /** Where each of the 256 bytes can stand, and where it is the first fault. */
    private void everyByte() {
        String[] begun = {"", "H", "HT", "HB", "HB0", "HD", "HD1", "HT0", WIDEST};
        String[] next = {"H", "TBD", "0123456789", "0123456789", "0123", "123456789", "0123", "TBD", ""};
        boolean[] ends = {true, false, true, false, true, false, true, false, false};
        for (int i = 0; i < begun.length; i++) {
            for (int letter = 0; letter < 256; letter++) {
                int place = begun[i].length();
                boolean goesOn = next[i].indexOf(letter) >= 0;
                String due = !goesOn ? "" + place : ends[i] ? "NONE" : "" + (place + 1);
                new Run().play("say(" + begun[i] + ") write(" + letter + ")=" + (place + 1) + " fault()=" + due,
                    "4: " + begun[i] + " and the byte " + letter, edges.check);
            }
        }
    }

    private void atFirst() {
        StringBuilder told = new StringBuilder();
        for (int what = 0; what <= 11; what++) {
            told.append("about(").append(what).append(")=0 ");
        }
        String nothing = "NONE: none. At first there is nothing.";
        edge(nothing, "", told + "berth(0,0)=UNKNOWN dream(0,0)=UNKNOWN fault()=0 port()=LATE undo()=LATE again(0)=LATE");
        edge(nothing, "", "again(1)=LATE unsound()=0 depths(0)=20 seed(0)=0 plan(false)=0 plan(true)=0 ebb(0,5,true)=1");
        edge(nothing, "", "night()=0 about(3)=1 about(4)=0 about(9)=1 undo()=0 about(3)=0 keep(0)=0 again(0)=0 years(30)=0");
        edge("`SleepHarbour()`: An empty port.", "", "moor(0,0)=UNKNOWN tow(0)=UNKNOWN later(0,0)=UNKNOWN wakes(0,0)=UNKNOWN"
            + " fits(0,0)=UNKNOWN soonest(0)=UNKNOWN share(0,true)=UNKNOWN rests(0,1,0)=UNKNOWN judge(4,0)=NONE judge(1,100)=0");
    }

    private void madeAnew() {
        String anew = "When THE PORT is made anew, all DREAMS LIE OFF, for 0 NIGHTS; nobody woke, THE NIGHT is 0.";
        edge(anew, "HB20B43D93D12D40", "moor(0,0)=1 moor(2,1)=1 2*night() about(3)=2 about(8)=2 dream(1,0)=3 dream(1,3)=2"
            + " dream(2,2)=9 berth(0,0)=0 berth(1,0)=6 port()=23 about(3)=0 about(5)=7 about(6)=0 about(7)=0 about(8)=0"
            + " dream(0,3)=0 dream(1,3)=0 dream(2,3)=0 dream(1,0)=1 berth(0,0)=2 berth(1,0)=4 berth(0,4)=0 berth(0,3)=0");
        edge(anew, "HT5T6B20D30", "night() wipe() say(HB71) port()=10 about(0)=0 about(2)=0 about(3)=0 about(4)=0"
            + " berth(0,0)=7 berth(0,1)=1 berth(0,2)=7 dream(0,0)=UNKNOWN about(5)=0");
    }

    private void tides() {
        String tide = "THE TIDE of a NIGHT is that which is left of it by how many there are (none: 0).";
        edge(tide, "HB30", "about(4)=0 berth(0,2)=3 night() about(4)=0 night() about(4)=0 berth(0,2)=3");
        edge(tide, "HT7", "about(4)=7 night() about(4)=7 9*night() about(4)=7");
        edge(tide, "HT7T2", "about(4)=7 night() about(4)=2 night() about(4)=7 night() about(4)=2 100*night() about(4)=2");
        edge(tide, "HT7T2T4", "about(4)=7 night() about(4)=2 night() about(4)=4 night() about(4)=7 100*night() about(4)=2");
        edge(tide, "HT1T2T3T4", "3*night() about(4)=4 night() about(4)=1 3*night() about(4)=4 night() about(4)=1"
            + " 391*night() about(3)=399 about(4)=4 night() about(3)=400 about(4)=1");
    }

    private void water() {
        String water = "WATER in a BERTH is its DEPTH and THE TIDE together.";
        edge(water, "HT9T0B90B00", "berth(0,2)=18 berth(1,2)=9 night() berth(0,2)=9 berth(1,2)=0");
        edge(water, "HT9B90D90", "fits(0,0)=1 moor(0,0)=1 night()=1");
    }

    private void asked() {
        String about = "DREAMS that LIE OFF (5: bits), are BERTHED (6), DREAMT (7), how often anybody WOKE (8), ACTS (9),"
            + " SOUNDED (10), bytes of THE TEXT (11). BAD.";
        edge(about, "HT1B20B00B52D20D91D92D40D50", "about(-1)=BAD about(0)=1 about(11)=27 about(12)=BAD about(MIN)=BAD about(MAX)=BAD");
        edge(about, "HT1B20B00B52D20D91D92D40D50", "about(5)=31 about(6)=0 about(7)=0 moor(0,0)=1 moor(4,2)=1 moor(2,1)=1"
            + " about(5)=10 about(6)=21 about(7)=0 about(9)=3 night()=2 about(5)=10 about(6)=4 about(7)=17 about(8)=1 about(9)=4");
        edge("TIDES (what = 0), BERTHS (1), DREAMS (2), THE NIGHT (3), THE TIDE (4)", WIDEST,
            "about(0)=4 about(1)=4 about(2)=5 about(3)=0 about(4)=0 night() about(3)=1 about(4)=1");
        edge("Of a BERTH its DEPTH (what = 0), KIND (1), WATER (2), DREAMS that are BERTHED in it (3: bits), how often who"
            + " sleeps there WOKE (4). UNKNOWN; BAD.", "HT3B52B03D90D10D90",
            "berth(0,-1)=BAD berth(0,0)=5 berth(0,1)=2 berth(0,2)=8 berth(0,3)=0 berth(0,4)=0 berth(0,5)=BAD berth(1,1)=3"
            + " berth(0,MIN)=BAD berth(0,MAX)=BAD berth(-1,0)=UNKNOWN berth(2,0)=UNKNOWN berth(MIN,0)=UNKNOWN"
            + " berth(MAX,0)=UNKNOWN berth(2,5)=UNKNOWN berth(-1,-1)=UNKNOWN moor(2,0)=1 berth(0,3)=4 moor(0,0)=2"
            + " berth(0,3)=5 berth(1,3)=0 night()=0 berth(0,4)=2 berth(1,4)=0 tow(0)=0 berth(0,3)=4 berth(0,4)=2");
        String dream = "Of a DREAM its DRAUGHT (what = 0), KIND (1), where it is (2: its BERTH; 8 LIES OFF, 9 DREAMT), how many"
            + " NIGHTS it has lain off (3; NONE: it does not), BERTHS in which it can be now (4: bits; 0: it does not LIE OFF)."
            + " UNKNOWN; BAD.";
        edge(dream, "HT3B52B03D90D12", "dream(0,-1)=BAD dream(0,0)=9 dream(1,1)=2 dream(0,2)=8 dream(0,3)=0 dream(0,4)=3"
            + " dream(0,5)=BAD dream(0,MIN)=BAD dream(0,MAX)=BAD dream(-1,0)=UNKNOWN dream(2,0)=UNKNOWN dream(MIN,0)=UNKNOWN"
            + " dream(MAX,0)=UNKNOWN dream(2,5)=UNKNOWN dream(-1,-1)=UNKNOWN");
        edge(dream, "HT3B52B03D90D12", "night() dream(0,3)=1 moor(0,0)=1 dream(0,2)=0 dream(0,3)=NONE dream(0,4)=0"
            + " moor(1,1)=1 dream(1,2)=1 night()=1 dream(1,2)=9 dream(1,3)=NONE dream(1,4)=0 tow(0)=0 dream(0,2)=8 dream(0,3)=0"
            + " dream(0,4)=3");
        edge(dream, "HB51B40D30D31D40", "dream(0,4)=3 dream(1,4)=2 dream(2,4)=2 moor(2,1)=1 dream(0,4)=1 dream(1,4)=0");
    }
}
