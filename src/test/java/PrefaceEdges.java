/** What the document says ahead of its terms: what the port is, in brief, and for how many calls an object is used. */
final class PrefaceEdges {
    private static final String TOWN = "HT1T4B20B31B12B43D30D51D22D93D20";
    private final Edges edges;

    PrefaceEdges(Edges edges) {
        this.edges = edges;
    }

    void play() {
        berthsAndDreams();
        doings();
        questions();
        chances();
        calls();
        whereADreamIs();
        theTextIsThePort();
    }

    private void edge(String sentence, String port, String told) {
        edges.edge(sentence, port, told);
    }

    private void berthsAndDreams() {
        edge("told as a text with the first fault", "", "say(HT1B2X) fault()=5 say(Y) fault()=5 port()=LATE wipe()=7 say(HT1B20) port()=110");
        String kinds = "berths by depth, by kind, plain ones, children's that are for small dreams alone, doubles that hold two, dredged ones"
            + " that get deeper";
        edge(kinds, TOWN, "berth(0,0)=2 berth(1,0)=3 berth(2,0)=1 berth(3,0)=4 berth(0,1)=0 berth(1,1)=1 berth(2,1)=2 berth(3,1)=3");
        edge(kinds, "HB91B02B73D40D90D90D30", "moor(0,0)=LATE moor(3,0)=1 moor(0,1)=1 moor(1,1)=2 moor(2,1)=LATE night()=1 berth(2,0)=8"
            + " berth(0,0)=9 berth(1,0)=0");
        String dreams = "dreams by draught, by kind, plain ones, nightmares that come in by themselves when they have lain off too long, barges"
            + " that take in ballast, wrecks that spoil a berth";
        edge(dreams, TOWN, "dream(0,0)=3 dream(1,0)=5 dream(2,0)=2 dream(3,0)=9 dream(0,1)=0 dream(1,1)=1 dream(2,1)=2 dream(3,1)=3");
        edge(dreams, "HB00B50D10D41D42D93", "moor(3,1)=1 3*night() dream(0,2)=8 dream(1,2)=0 dream(2,0)=7 berth(1,0)=2 berth(0,0)=0");
        edge("tides by nights", "HT1T4", "about(4)=1 night() about(4)=4 night() about(4)=1");
    }

    private void doings() {
        edge("berthed, towed out, nights, all undone", "HB03D90D12", "moor(0,0)=1 night()=0 tow(0)=0 night()=0 about(3)=2 berth(0,0)=2"
            + " dream(1,0)=3 undo()=3 dream(0,2)=8 undo()=2 dream(0,2)=0 undo()=1 berth(0,0)=0 berth(0,4)=0 undo()=0 dream(0,2)=8"
            + " dream(1,0)=1 dream(1,3)=0 about(3)=0 undo()=LATE");
        edge("kept and gone on from.", "HB00D90", "moor(0,0)=1 keep(0)=0 2*night() berth(0,4)=2 again(0)=0 berth(0,4)=0 dream(0,2)=0 night()=0"
            + " berth(0,4)=1");
    }

    private void questions() {
        String who = "who dreams, who wakes on the bottom, which berths are deep enough, when first";
        edge(who, TOWN, "moor(0,0)=1 moor(3,2)=1 later(0,1)=9 later(3,1)=2 wakes(2,1)=1 wakes(0,1)=0 fits(1,0)=8 fits(3,0)=0 soonest(3)=1");
        edge("how all should be berthed so that most are dreamt", TOWN, "plan(false)=4 plan(true)=14203 moor(0,0)=1 moor(1,3)=1 moor(2,1)=1"
            + " moor(4,2)=1 night()=4");
        edge("told doings judged", TOWN, "judge(4,100000300500)=NONE judge(4,100000301500)=2 moor(0,0)=1 night()=1 judge(1,300)=NONE");
        edge("how deep one is, by what grounded", "HT1T4", "sound(5,0,1)=1 sound(4,0,0)=2 depths(0)=2 depths(1)=3 sound(9,1,1)=3 depths(0)=2"
            + " sound(8,1,0)=4 depths(0)=1 depths(1)=33");
    }

    private void chances() {
        edge("shares of berths in what is dreamt, two dreams that choose, at rest", "HB50B50D50D40", "share(0,true)=1 share(1,true)=1"
            + " rests(0,1,0)=2 rests(0,1,1)=1 moor(0,0)=1 rests(0,1,0)=LATE");
        edge("tides that fail by chance, years by a seed", "HT5B00B50D50D50", "moor(0,0)=1 moor(1,1)=1 ebb(2,2,true)=4 ebb(2,2,false)=5"
            + " ebb(1,2,true)=1 ebb(1,2,false)=1 seed(0)=0 years(1)=2 seed(0)=1442695040888963407");
    }

    /** A run of just 512 calls, of which the last asks for what all the others came to. */
    private void calls() {
        String most = "An object is used for at most 512 calls after it has been made; what later calls answer is free.";
        String begun = "say(HB00B92D90D11) port()=22 moor(0,0)=1 ";
        int made = 13 + 2;
        edge(most, "", begun + (512 - made - 1) + "*night() berth(0,4)=" + (512 - made - 1));
        edge(most, "", begun + (512 - made - 1) + "*night() dream(1,2)=9");
        edge(most, "", begun + (512 - made - 1) + "*night() undo()=13");
        edge(most, "", begun + "490*night() 6*undo() about(3)=484");
        edge(most, "", "say(H) 510*write(9) about(11)=48");
        edge(most, "", "255*sound(9,0,0) unsound()=6 255*sound(8,0,1) unsound()=6");
    }

    private void whereADreamIs() {
        String where = "A DREAM LIES OFF, is BERTHED (in a BERTH), or DREAMT.";
        edge(where, TOWN, "about(5)=31 about(6)=0 about(7)=0 moor(0,0)=1 about(5)=30 about(6)=1 about(7)=0 night()=1 about(5)=30 about(6)=0"
            + " about(7)=1 moor(3,2)=1 about(5)=22 about(6)=8 about(7)=1 tow(3)=2 about(5)=30 about(6)=0 about(7)=1");
        edge(where, "HB90D10", "dream(0,2)=8 dream(0,3)=0 berth(0,3)=0 moor(0,0)=1 dream(0,2)=0 dream(0,3)=NONE berth(0,3)=1 night()=1"
            + " dream(0,2)=9 dream(0,3)=NONE berth(0,3)=0");
        for (int berth = 0; berth < 4; berth++) {
            edge(where, "HB00B00B00B00D90", "moor(0," + berth + ")=1 dream(0,2)=" + berth + " berth(" + berth + ",3)=1 about(6)=1 tow(0)=" + berth);
        }
    }

    private void theTextIsThePort() {
        String port = "`int port()`: THE TEXT is THE PORT (no ACTS; what was kept is gone; SOUNDED, THE SEED stay): 100 times TIDES, 10 times"
            + " BERTHS, and DREAMS.";
        edge(port, "", "say(HT7B52D31) about(0)=0 about(1)=0 berth(0,0)=UNKNOWN port()=111 about(0)=1 about(4)=7 berth(0,0)=5 berth(0,1)=2"
            + " dream(0,0)=3 dream(0,1)=1");
        edge(port, "HT7B52D31", "say(B10) about(1)=1 berth(1,0)=UNKNOWN port()=121 berth(1,0)=1 wipe()=12 about(1)=2 dream(0,0)=3");
        edge(port, "", "say(HT1) port()=100 say(T1) port()=200 say(T1T1) port()=400 say(B00) port()=410 say(B00B00B00) port()=440 say(D10)"
            + " port()=441 say(D10D10D10D10) port()=445");
    }
}
