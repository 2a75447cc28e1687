/** Edges of nights and of what is done between them: terms 1, promises 9 to 12. */
final class NightEdges {
    private final Edges edges;

    NightEdges(Edges edges) {
        this.edges = edges;
    }

    void play() {
        places();
        childrens();
        deepEnough();
        wrecks();
        barges();
        nightmares();
        dredged();
        order();
        berthedAndTowed();
        rowOfActs();
        undone();
    }

    private void edge(String sentence, String port, String told) {
        edges.edge(sentence, port, told);
    }

    private void places() {
        String holds = "A DREAM can be in a BERTH, where fewer are BERTHED than it holds (DOUBLE 2, others 1)";
        edge(holds, "HB00B01B02B03D90D20D90D90D20", "moor(0,0)=1 dream(2,4)=12 moor(2,0)=LATE moor(1,1)=1 dream(4,4)=12"
            + " moor(4,1)=LATE moor(2,3)=1 dream(3,4)=4 moor(3,3)=LATE moor(3,2)=1 dream(4,4)=4 moor(4,2)=2 about(5)=0");
        edge(holds, "HB02D90D90D90", "dream(2,4)=1 moor(0,0)=1 dream(2,4)=1 moor(1,0)=2 dream(2,4)=0 moor(2,0)=LATE"
            + " berth(0,3)=3 tow(0)=0 dream(2,4)=1 moor(2,0)=2 berth(0,3)=6 moor(0,0)=LATE");
        edge(holds, "HB50D90D50", "moor(0,0)=1 moor(1,0)=LATE night()=0 moor(1,0)=LATE tow(0)=0 moor(1,0)=1 night()=1 moor(0,0)=1");
    }

    private void childrens() {
        String child = "in a CHILD's, if its DRAUGHT is 3 or less; a NIGHTMARE in no CHILD's";
        edge(child, "HB91D20D30D40D11D31", "dream(0,4)=1 dream(1,4)=1 dream(2,4)=0 dream(3,4)=0 dream(4,4)=0 moor(2,0)=LATE"
            + " moor(3,0)=LATE moor(4,0)=LATE moor(1,0)=1 tow(1)=0 moor(0,0)=1 about(6)=1");
        edge(child, "HB91D33D43D32D42", "moor(1,0)=LATE moor(3,0)=LATE moor(0,0)=1 tow(0)=0 moor(2,0)=1");
        edge(child, "HB01D22", "dream(0,4)=1 night() dream(0,0)=3 dream(0,4)=1 moor(0,0)=1 undo()=1 night() dream(0,0)=4"
            + " dream(0,4)=0 moor(0,0)=LATE undo()=1 dream(0,0)=3 moor(0,0)=1");
        edge(child, "HB01D32", "moor(0,0)=1 5*night() dream(0,0)=3 dream(0,2)=0 tow(0)=0 moor(0,0)=1 tow(0)=0 night() moor(0,0)=LATE");
        edge(child, "HB91B91D11D31", "6*night() about(5)=3 dream(0,3)=6 dream(1,3)=6 dream(0,4)=0");
    }

    private void deepEnough() {
        String draught = "by number each DREAM that is BERTHED is DREAMT, if its DRAUGHT is no more than WATER there; else it"
            + " GROUNDS: it stays, and who sleeps there WOKE once more";
        edge(draught, "HT2B30D40", "moor(0,0)=1 night()=1 dream(0,2)=9 about(8)=0");
        edge(draught, "HT2B30D50", "moor(0,0)=1 night()=1 dream(0,2)=9 about(7)=1 about(8)=0 berth(0,3)=0");
        edge(draught, "HT2B30D60", "moor(0,0)=1 night()=0 dream(0,2)=0 about(7)=0 about(8)=1 berth(0,4)=1 berth(0,0)=3"
            + " night()=0 berth(0,4)=2 berth(0,3)=1");
        edge(draught, "HB00D10", "moor(0,0)=1 night()=0 berth(0,4)=1");
        edge(draught, "HB10D10", "moor(0,0)=1 night()=1 berth(0,4)=0");
        edge(draught, "HB80D90", "moor(0,0)=1 night()=0");
        edge(draught, "HB90D90", "moor(0,0)=1 night()=1 night()=0 about(7)=1");
        edge(draught, "HB02D50D60", "moor(0,0)=1 moor(1,0)=2 night()=0 berth(0,4)=2 about(8)=2 tow(0)=0 night()=0 berth(0,4)=3");
        edge("`int night()`: A NIGHT: how many are DREAMT in it.", "HB92B92B90D10D20D30D40D50", "night()=0 moor(0,0)=1 moor(1,0)=2"
            + " moor(2,1)=1 moor(3,1)=2 moor(4,2)=1 night()=5 about(7)=31 night()=0 about(7)=31 about(3)=3");
    }

    private void wrecks() {
        String spoils = "a WRECK that GROUNDS, too, makes the BERTH 1 less deep (0 at least).";
        edge(spoils, "HB20D93", "moor(0,0)=1 night()=0 berth(0,0)=1 night()=0 berth(0,0)=0 night()=0 berth(0,0)=0 berth(0,4)=3");
        edge(spoils, "HB12D93D83", "moor(0,0)=1 moor(1,0)=2 night()=0 berth(0,0)=0 berth(0,4)=2 night()=0 berth(0,0)=0 berth(0,4)=4");
        edge(spoils, "HB32D93D83", "moor(0,0)=1 moor(1,0)=2 night()=0 berth(0,0)=1 night()=0 berth(0,0)=0");
        edge(spoils, "HB50D53", "moor(0,0)=1 night()=1 berth(0,0)=5");
        edge(spoils, "HB50D63", "moor(0,0)=1 night()=0 berth(0,0)=4 tow(0)=0 night()=0 berth(0,0)=4");
        edge(spoils, "HB50B50B50D60D61D62", "moor(0,0)=1 moor(1,1)=1 moor(2,2)=1 night()=0 berth(0,0)=5 berth(1,0)=5 berth(2,0)=5");
        edge(spoils, "HB52D63D50", "moor(0,0)=1 moor(1,0)=2 night()=0 berth(0,4)=2 berth(0,0)=4");
        edge(spoils, "HB52D63D40", "moor(0,0)=1 moor(1,0)=2 night()=1 berth(0,4)=1 berth(0,0)=4");
        edge(spoils, "HB52D50D63", "moor(0,0)=1 moor(1,0)=2 night()=1 berth(0,4)=1 berth(0,0)=4");
        edge(spoils, "HT5B02D63D50", "moor(0,0)=1 moor(1,0)=2 night()=1 berth(0,0)=0 dream(1,2)=9");
        edge(spoils, "HB11D33", "moor(0,0)=1 night()=0 berth(0,0)=0 night()=0 berth(0,0)=0");
        edge(spoils, "HB52B50D63D50", "moor(0,0)=1 moor(1,1)=1 night()=1 berth(0,0)=4 berth(1,0)=5");
    }

    private void barges() {
        String ballast = "(b) each that LIES OFF has lain so 1 NIGHT more; a BARGE has 1 more DRAUGHT (9 at most)";
        edge(ballast, "HD72D92D70D71D73", "night() dream(0,0)=8 dream(1,0)=9 night() dream(0,0)=9 night() dream(0,0)=9 dream(1,0)=9"
            + " dream(2,0)=7 dream(3,0)=7 dream(4,0)=7 dream(0,3)=3 dream(2,3)=3");
        edge(ballast, "HB00D12D10", "moor(0,0)=1 2*night() dream(0,0)=1 dream(0,3)=NONE dream(1,3)=2 tow(0)=0 dream(0,0)=1 night()"
            + " dream(0,0)=2 dream(0,3)=1 dream(1,3)=3");
        edge(ballast, "HB50D42", "moor(0,0)=1 night()=1 3*night() dream(0,0)=4 dream(0,3)=NONE");
        edge(ballast, "HB50D42", "night() dream(0,0)=5 moor(0,0)=1 night()=1");
        edge(ballast, "HB50D42", "2*night() dream(0,0)=6 moor(0,0)=1 night()=0");
    }

    private void nightmares() {
        String comes = "then by number each NIGHTMARE that has lain off 3 NIGHTS, or more, is BERTHED in the least BERTH where it"
            + " can be, if there is one.";
        edge(comes, "HB90B90D11D10", "2*night() dream(0,2)=8 dream(0,3)=2 night()=0 dream(0,2)=0 dream(0,3)=NONE dream(1,2)=8"
            + " about(8)=0 about(9)=3 night()=1 dream(0,2)=9 5*night() dream(1,2)=8");
        edge(comes, "HB91B90B90D11", "3*night() dream(0,2)=1");
        edge(comes, "HB00B90B90D11D50", "moor(1,0)=1 3*night() dream(0,2)=1");
        edge(comes, "HB00B02D11D21D31D90", "moor(3,0)=1 2*night() about(6)=8 night() dream(0,2)=1 dream(1,2)=1 dream(2,2)=8 dream(2,3)=3");
        edge(comes, "HB00B00D11D21D31", "3*night() dream(0,2)=0 dream(1,2)=1 dream(2,2)=8 3*night() dream(2,3)=6 tow(1)=1"
            + " dream(1,3)=0 night() dream(2,2)=1 dream(1,2)=8 dream(1,3)=1");
        edge(comes, "HB00D90D11", "moor(0,0)=1 4*night() dream(1,2)=8 dream(1,3)=4 tow(0)=0 dream(1,2)=8 night() dream(1,2)=0");
        edge(comes, "HD11D31", "3*night() dream(0,2)=8 dream(0,3)=3 9*night() dream(1,3)=12 about(6)=0");
        edge(comes, "HB50D50D91", "2*night() moor(0,0)=1 night()=1 dream(1,2)=0 about(8)=0 night()=0 about(8)=1");
        edge(comes, "HB00D11", "2*night() moor(0,0)=1 tow(0)=0 dream(0,3)=0 2*night() dream(0,2)=8 dream(0,3)=2 night() dream(0,2)=0");
        edge(comes, "HB90D11", "3*night() dream(0,2)=0 undo()=2 dream(0,2)=8 dream(0,3)=2 moor(0,0)=1 night()=1");
        edge(comes, "HB90D12D13D10", "9*night() about(6)=0");
    }

    private void dredged() {
        String deeper = "(c) each DREDGED BERTH is 1 deeper (9 at most). THE NIGHT is one more.";
        edge(deeper, "HB73B93B70B72", "night() berth(0,0)=8 berth(1,0)=9 berth(2,0)=7 berth(3,0)=7 night() berth(0,0)=9"
            + " night() berth(0,0)=9 berth(1,0)=9 berth(0,2)=9 about(3)=3");
        edge(deeper, "HB71B03", "9*night() berth(0,0)=7 berth(1,0)=9 night() berth(1,0)=9 about(3)=10");
        edge(deeper, "HB73D10", "moor(0,0)=1 night()=1 berth(0,0)=8 undo()=1 berth(0,0)=7");
    }

    /** What comes first in a night is seen by what comes behind it, and not the other way. */
    private void order() {
        String order = "A NIGHT, in this order: (a)";
        edge(order, "HB73D80", "moor(0,0)=1 night()=0 berth(0,0)=8 night()=1 berth(0,0)=9");
        edge(order, "HB03D93", "moor(0,0)=1 night()=0 berth(0,0)=1 night()=0 berth(0,0)=1 berth(0,4)=2");
        edge(order, "HB83D93", "moor(0,0)=1 night()=0 berth(0,0)=8 night()=0 berth(0,0)=8");
        edge(order, "HT0T9B00D90", "moor(0,0)=1 night()=0 about(4)=9 night()=1 about(4)=0");
        edge(order, "HT9T0B00D90", "moor(0,0)=1 night()=1");
        edge(order, "HB10D10D21", "2*night() moor(0,0)=1 night()=1 dream(1,2)=0 about(8)=0");
    }

    private void berthedAndTowed() {
        String berthed = "BERTHED: a DREAM that LIES OFF is in a BERTH where it can be.";
        edge(berthed, "HB50B50D50D60", "moor(0,0)=1 moor(0,0)=LATE moor(0,1)=LATE night()=1 moor(0,0)=LATE moor(0,1)=LATE moor(1,0)=1");
        edge(berthed, "HB50D61", "3*night() dream(0,2)=0 moor(0,0)=LATE about(9)=3");
        edge("BERTHED: how many are in that BERTH. UNKNOWN: dream, berth; LATE: it does not LIE OFF, it can not be there.",
            "HB02B00B00B00D90D90D90D90D90", "moor(-1,0)=UNKNOWN moor(5,0)=UNKNOWN moor(0,-1)=UNKNOWN moor(0,4)=UNKNOWN"
            + " moor(MIN,0)=UNKNOWN moor(MAX,0)=UNKNOWN moor(0,MIN)=UNKNOWN moor(0,MAX)=UNKNOWN moor(0,8)=UNKNOWN"
            + " moor(8,8)=UNKNOWN about(9)=0 moor(4,3)=1 moor(0,0)=1 moor(1,0)=2 moor(0,4)=UNKNOWN moor(2,0)=LATE moor(4,2)=LATE");
        String towed = "TOWED: one that is BERTHED LIES OFF, for 0 NIGHTS.";
        edge(towed, "HB50D60D50", "2*night() dream(0,3)=2 moor(0,0)=1 dream(0,3)=NONE tow(0)=0 dream(0,2)=8 dream(0,3)=0 tow(0)=LATE"
            + " night() dream(0,3)=1 dream(1,3)=3");
        edge(towed, "HB50D60", "moor(0,0)=1 3*night() berth(0,4)=3 tow(0)=0 dream(0,3)=0 berth(0,4)=3 berth(0,3)=0");
        edge("TOWED: the BERTH where it was. UNKNOWN; LATE: it is not BERTHED.", "HB00B00B00B00D10D10D10D10D90",
            "tow(-1)=UNKNOWN tow(5)=UNKNOWN tow(MIN)=UNKNOWN tow(MAX)=UNKNOWN tow(0)=LATE tow(4)=LATE about(9)=0 moor(4,3)=1"
            + " tow(4)=3 tow(4)=LATE moor(4,0)=1 tow(4)=0 moor(0,2)=1 tow(0)=2 about(9)=6");
        edge("TOWED: the BERTH where it was. UNKNOWN; LATE: it is not BERTHED.", "HB90D10", "moor(0,0)=1 night()=1 tow(0)=LATE dream(0,2)=9");
    }

    private static String undos(int from) {
        StringBuilder told = new StringBuilder();
        for (int left = from; left >= 0; left--) {
            told.append(" undo()=").append(left);
        }
        return told + " undo()=LATE ";
    }

    private void rowOfActs() {
        String row = "ACTS (NIGHTS, BERTHED, TOWED) are a row (14 at most; when it is full, the first one is forgotten); the last one can"
            + " be undone.";
        edge(row, "H", "12*night() about(9)=12 night() about(9)=13" + undos(12) + "about(3)=0");
        edge(row, "H", "13*night() about(9)=13 night() about(9)=14" + undos(13) + "about(3)=0");
        edge(row, "H", "14*night() about(9)=14 night() about(9)=14 about(3)=15" + undos(13) + "about(3)=1 about(9)=0");
        edge(row, "H", "100*night() about(9)=14 about(3)=100" + undos(13) + "about(3)=86 night() about(9)=1 undo()=0 about(3)=86");
        edge(row, "H", "14*night() undo()=13 undo()=12 undo()=11 5*night() about(9)=14 about(3)=16" + undos(13) + "about(3)=2");
        edge(row, "H", "30*night() undo()=13 night() about(9)=14 undo()=13 undo()=12 about(3)=28 night() about(9)=13" + undos(12)
            + "about(3)=16");
        edge(row, "HB00D10", "moor(0,0)=1 13*night() about(9)=14" + undos(13) + "dream(0,2)=8");
        edge(row, "HB00D10", "moor(0,0)=1 14*night() about(9)=14" + undos(13) + "about(3)=0 dream(0,2)=0 about(8)=0");
        edge(row, "HB00D10", "moor(0,0)=1 tow(0)=0 13*night() about(9)=14" + undos(13) + "about(3)=0 dream(0,2)=0");
        edge(row, "HB00D10", "moor(0,0)=1 tow(0)=0 14*night() about(9)=14" + undos(13) + "about(3)=0 dream(0,2)=8");
        edge(row, "HB00D10", "7*moor(0,0) about(9)=1 7*tow(0) about(9)=2 keep(0)=0 plan(true) years(9) about(9)=2" + undos(1));
    }

    private void undone() {
        String undo = "The last ACT is undone: how many are left. LATE: there is none.";
        edge(undo, "HT2T5B20B63D93D12D11D80", "moor(0,0)=1 moor(3,1)=1 night()=1 berth(0,0)=1 berth(0,4)=1 berth(1,0)=7 dream(3,2)=9"
            + " dream(1,0)=2 dream(1,3)=1 dream(2,3)=1 about(3)=1 about(4)=5 undo()=2 berth(0,0)=2 berth(0,4)=0 berth(1,0)=6"
            + " dream(3,2)=1 dream(1,0)=1 dream(1,3)=0 dream(2,3)=0 about(3)=0 about(4)=2 night()=1 dream(1,0)=2");
        edge(undo, "HB00D11", "3*night() dream(0,2)=0 undo()=2 dream(0,2)=8 dream(0,3)=2 night() dream(0,2)=0");
        edge(undo, "HB00D90", "2*night() moor(0,0)=1 undo()=2 dream(0,2)=8 dream(0,3)=2 moor(0,0)=1 tow(0)=0 dream(0,3)=0 undo()=3"
            + " dream(0,2)=0 dream(0,3)=NONE berth(0,3)=1 undo()=2 dream(0,3)=2" + undos(1) + "about(3)=0 dream(0,3)=0");
        edge(undo, "HB00D90", "undo()=LATE night() port()=11 undo()=LATE night() keep(0)=1 again(0)=1 undo()=LATE about(3)=1");
        edge(undo, "", "undo()=LATE night()=0 undo()=0 undo()=LATE");
    }
}
