/** Edges of nights to come, of plans, judgements and shares: terms 2, promises 13 to 19. */
final class AheadEdges {
    /** Five nightmares, one after the other dreamt on a high tide: the last of them in the 20th night. */
    private static final String QUEUE = "HT0T0T0T9B00D91D91D91D91D91";
    private static final String ALL_DEEP = "HB50B50B50B50D50D50D50D50D50";
    private final Edges edges;

    AheadEdges(Edges edges) {
        this.edges = edges;
    }

    void play() {
        later();
        wakes();
        fits();
        fitsKinds();
        soonest();
        plan();
        planOfThoseLeft();
        judged();
        judgedPlaces();
        judgedFigures();
        share();
        shareOfBerthed();
    }

    private void edge(String sentence, String port, String told) {
        edges.edge(sentence, port, told);
    }

    private void later() {
        String in = "IN n NIGHTS (0 .. 20): where a DREAM is (its BERTH; 8 LIES OFF, 9 DREAMT); how often who sleeps in a BERTH WOKE in"
            + " all.";
        edge(in, QUEUE, "later(0,0)=8 later(0,2)=8 later(0,3)=0 later(0,4)=9 later(1,3)=8 later(1,4)=0 later(1,7)=0 later(1,8)=9"
            + " later(4,15)=8 later(4,16)=0 later(4,18)=0 later(4,19)=0 later(4,20)=9 about(3)=0 about(5)=31");
        edge(in, QUEUE, "3*night() later(0,0)=0 later(0,1)=9 later(4,16)=0 later(4,17)=9 later(4,20)=9 night()=1 later(0,0)=9 later(1,0)=0");
        edge(in, "HB00B00B00B60D60D61D62", "moor(0,3)=1 later(0,0)=3 later(0,1)=9 later(1,2)=8 later(1,3)=0 later(1,20)=0 later(2,20)=8");
        String later = "IN n NIGHTS: where it is. UNKNOWN; BAD: n.";
        edge(later, QUEUE, "later(4,-1)=BAD later(4,0)=8 later(4,1)=8 later(4,20)=9 later(4,21)=BAD later(4,MIN)=BAD later(4,MAX)=BAD"
            + " later(-1,0)=UNKNOWN later(5,0)=UNKNOWN later(MIN,0)=UNKNOWN later(MAX,0)=UNKNOWN later(5,21)=UNKNOWN"
            + " later(-1,-1)=UNKNOWN");
    }

    private void wakes() {
        String in = "IN n NIGHTS (0 .. 20): where a DREAM is (its BERTH; 8 LIES OFF, 9 DREAMT); how often who sleeps in a BERTH WOKE in"
            + " all.";
        edge(in, QUEUE, "wakes(0,0)=0 wakes(0,4)=0 wakes(0,5)=1 wakes(0,7)=3 wakes(0,8)=3 wakes(0,18)=11 wakes(0,19)=12 wakes(0,20)=12");
        edge(in, QUEUE, "5*night() wakes(0,0)=1 berth(0,4)=1 wakes(0,2)=3 wakes(0,15)=12 wakes(0,20)=12 berth(0,4)=1");
        edge(in, "HB00B02D10D90D83", "moor(0,0)=1 moor(1,1)=1 moor(2,1)=2 wakes(0,19)=19 wakes(0,20)=20 wakes(1,20)=40 night()"
            + " wakes(0,0)=1 wakes(0,20)=21 wakes(1,20)=42");
        String wakes = "IN n NIGHTS: how often who sleeps there WOKE. UNKNOWN; BAD: n.";
        edge(wakes, "HB00B00B00B00D10", "moor(0,3)=1 wakes(3,-1)=BAD wakes(3,0)=0 wakes(3,1)=1 wakes(3,20)=20 wakes(3,21)=BAD"
            + " wakes(3,MIN)=BAD wakes(3,MAX)=BAD wakes(-1,0)=UNKNOWN wakes(4,0)=UNKNOWN wakes(MIN,0)=UNKNOWN"
            + " wakes(MAX,0)=UNKNOWN wakes(4,21)=UNKNOWN wakes(-1,-1)=UNKNOWN wakes(0,20)=0");
    }

    private static final String FITS = "FITS for a DREAM, in n NIGHTS (0 .. 20): BERTHS (bits) in which WATER then is as much as its"
        + " DRAUGHT then, or more, and (KINDS alone) it can be (places that are taken set aside; nothing being done till then).";

    private void fits() {
        edge(FITS, "HT2B30B40B20B90D40D50D60D70D90", "fits(0,0)=15 fits(1,0)=11 fits(2,0)=10 fits(3,0)=8 fits(4,0)=8");
        edge(FITS, "HT0T9B00D90", "fits(0,0)=0 fits(0,1)=1 fits(0,2)=0 fits(0,18)=0 fits(0,19)=1 fits(0,20)=0 night() fits(0,0)=1"
            + " fits(0,19)=0 fits(0,20)=1");
        edge(FITS, "HB80D12", "fits(0,0)=1 fits(0,7)=1 fits(0,8)=0 fits(0,20)=0 dream(0,0)=1");
        edge(FITS, "HB03D90", "fits(0,0)=0 fits(0,8)=0 fits(0,9)=1 fits(0,20)=1 berth(0,0)=0");
        edge(FITS, "HB80D93D10", "moor(0,0)=1 fits(1,0)=1 fits(1,7)=1 fits(1,8)=0 fits(1,20)=0 berth(0,0)=8");
        edge("`int fits(int dream, int n)`: FITS, as bits. UNKNOWN; BAD: n.", ALL_DEEP, "fits(4,-1)=BAD fits(4,0)=15 fits(4,1)=15"
            + " fits(4,20)=15 fits(4,21)=BAD fits(4,MIN)=BAD fits(4,MAX)=BAD fits(-1,0)=UNKNOWN fits(5,0)=UNKNOWN fits(MIN,0)=UNKNOWN"
            + " fits(MAX,0)=UNKNOWN fits(5,21)=UNKNOWN fits(-1,-1)=UNKNOWN");
        edge(FITS, "HD10", "fits(0,0)=0 fits(0,20)=0");
    }

    private void fitsKinds() {
        edge(FITS, "HB91D30D40D11D32", "fits(0,0)=1 fits(1,0)=0 fits(2,0)=0 fits(3,0)=1 fits(3,1)=0 fits(0,20)=1");
        edge(FITS, "HB50B50D50D50D40", "moor(0,0)=1 fits(1,0)=3 fits(0,0)=3 moor(1,1)=1 fits(2,0)=3 night()=2 fits(0,0)=3 fits(2,20)=3");
        edge(FITS, "HB91D22", "moor(0,0)=1 fits(0,0)=1 fits(0,20)=1");
        edge(FITS, "HB00B91D32", "moor(0,0)=1 fits(0,20)=2 tow(0)=0 fits(0,0)=2 fits(0,1)=0");
        edge(FITS, "HB52D63D51D50", "moor(0,0)=1 fits(2,0)=1 fits(2,1)=0 fits(1,0)=1");
    }

    private void soonest() {
        String soonest = "SOONEST for a DREAM that is not DREAMT: in how many NIGHTS (0 .. 20) it FITS any BERTH first; NONE.";
        edge(soonest, "HB50D50", "soonest(0)=0");
        edge(soonest, "HT0T1B40D50", "soonest(0)=1 night() soonest(0)=0 night() soonest(0)=1");
        edge(soonest, "HT0T0T0T5B00D50D60", "soonest(0)=3 soonest(1)=NONE");
        edge(soonest, "HB03D90D91D92", "soonest(0)=9 soonest(1)=9 soonest(2)=9 night() soonest(0)=8");
        // No port was found that comes later than in 12 nights, and yet comes: the wreck holds the dredging up for 4.
        edge(soonest, "HT2T1T0T0B03D33D70D82", "moor(0,0)=1 soonest(2)=12 fits(2,11)=0 fits(2,12)=1");
        edge(soonest, "HB80D90", "soonest(0)=NONE");
        edge(soonest, "HT9D10", "soonest(0)=NONE");
        edge(soonest, "HB91D11D40D30", "soonest(0)=NONE soonest(1)=NONE soonest(2)=0");
        edge(soonest, "HT0T9B01D32D22", "soonest(0)=NONE soonest(1)=1");
        edge(soonest, "HB50B50D60D50", "moor(1,0)=1 moor(0,1)=1 soonest(0)=NONE soonest(1)=0 night()=1 soonest(1)=LATE soonest(0)=NONE");
        edge("SOONEST; NONE. UNKNOWN; LATE: it is DREAMT.", ALL_DEEP, "soonest(-1)=UNKNOWN soonest(0)=0 soonest(4)=0 soonest(5)=UNKNOWN"
            + " soonest(MIN)=UNKNOWN soonest(MAX)=UNKNOWN moor(4,0)=1 soonest(4)=0 night()=1 soonest(4)=LATE undo()=1 soonest(4)=0");
    }

    private static final String PLAN = "PLAN: of all ways to have DREAMS that LIE OFF BERTHED now, or left, one after the other by"
        + " number, that by which most DREAMS are DREAMT in THE NIGHT that is now; of like ones the least (figures by DREAMS that LIE"
        + " OFF, 0 left, else the BERTH and 1): how many; the way.";

    private void planned(String port, int many, int way) {
        edge(PLAN, port, "plan(false)=" + many + " plan(true)=" + way + " plan(false)=" + many);
    }

    private void plan() {
        planned("H", 0, 0);
        planned("HB90", 0, 0);
        planned("HD10", 0, 0);
        planned("HB40D50", 0, 0);
        planned("HB50D50", 1, 1);
        planned("HB60D50", 1, 1);
        planned("HB50B50D50", 1, 1);
        planned("HB40B50D50", 1, 2);
        planned("HB50D50D50", 1, 1);
        planned("HB50B50D50D50", 2, 12);
        planned("HB50B50D50D50D50", 2, 12);
        planned("HB50B40D40D50", 2, 21);
        planned("HB00B00B00B50D50", 1, 4);
        planned("HB10B10B10B90D90D10", 2, 41);
        planned("HB00B00B00B92D10D10D10D10D10", 2, 44);
        planned("HB92B00B00B92D10D10D10D10D10", 4, 1144);
        planned("HB10B10B10B90D90D10D10D10D10", 4, 1234);
        planned("HB10B10B10B92D90D10D10D10D10", 5, 41234);
        planned(ALL_DEEP, 4, 1234);
        planned("HB52B52B52B50D50D50D50D50D50", 5, 11223);
        planned("HB42B52B52B50D50D50D50D50D50", 5, 22334);
        planned("HB91D40D31", 0, 0);
        planned("HB91D30D40", 1, 10);
        planned("HB52D63D50", 1, 1);
        planned("HB52D50D63", 1, 10);
        planned("HB52D53D50", 2, 11);
        edge("PLAN: how many (way = false), the way (way = true).", ALL_DEEP, "plan(false)=4 plan(true)=1234 about(5)=31 about(9)=0");
    }

    private void planOfThoseLeft() {
        edge(PLAN, "HB50B50D50D50D50", "moor(1,0)=1 plan(false)=2 plan(true)=2 moor(0,1)=1 plan(false)=2 plan(true)=0 night()=2"
            + " plan(false)=1 plan(true)=1 moor(2,1)=1 plan(false)=1 plan(true)=0 night()=1 plan(false)=0 plan(true)=0");
        edge(PLAN, "HB50D90D50", "moor(0,0)=1 plan(false)=0 plan(true)=0 tow(0)=0 plan(false)=1 plan(true)=1");
        edge(PLAN, "HB52D50D93D50", "moor(1,0)=1 plan(false)=1 plan(true)=10");
        edge(PLAN, "HB50B50B50D90D50", "moor(0,0)=1 plan(false)=1 plan(true)=2");
        edge(PLAN, "HB52B50B50D93D50D50", "moor(0,0)=1 plan(false)=2 plan(true)=23");
        edge(PLAN, "HT0T9B00D90", "plan(false)=0 plan(true)=0 night()=0 plan(false)=1 plan(true)=1");
        edge(PLAN, "HB42D52D40", "night() night() plan(false)=1 plan(true)=1");
    }

    private static final String JUDGED = "JUDGED: n doings (1 .. 4), told as three figures each (0, 0, 0: A NIGHT; 1, a DREAM, a BERTH:"
        + " BERTHED; 2, 0, a DREAM: TOWED; 3, 0, a DREAM: it is DREAMT; 4, a DREAM, a BERTH: it is BERTHED there; 5, a BERTH, v: who"
        + " sleeps there WOKE v times or more): the place of the first that can not be (or is not so); NONE: none.";

    private void judged() {
        edge(JUDGED, ALL_DEEP, "judge(1,143)=NONE judge(1,144)=0 judge(1,153)=0 judge(1,149)=0 judge(1,193)=0 judge(2,143143)=1"
            + " judge(2,143142)=1 judge(2,143133)=1 judge(2,143132)=NONE judge(3,143000143)=2 judge(3,143000133)=NONE");
        edge(JUDGED, ALL_DEEP, "judge(1,204)=0 judge(2,143204)=NONE judge(2,143205)=1 judge(2,143203)=1 judge(3,143204204)=2"
            + " judge(3,143000204)=2 judge(3,143204143)=NONE");
        edge(JUDGED, ALL_DEEP, "judge(1,304)=0 judge(2,143304)=1 judge(3,143000304)=NONE judge(3,143000305)=2 judge(3,143000303)=2"
            + " judge(2,304)=1 judge(4,143000000304)=NONE");
        edge(JUDGED, ALL_DEEP, "judge(1,443)=0 judge(2,143443)=NONE judge(2,143442)=1 judge(2,143444)=1 judge(2,143433)=1"
            + " judge(2,143453)=1 judge(3,143000443)=2 judge(1,448)=0 judge(3,143000449)=2");
        edge(JUDGED, ALL_DEEP, "judge(1,530)=NONE judge(1,540)=0 judge(1,531)=0 judge(1,590)=0 judge(1,500)=NONE judge(4,539)=3");
        edge(JUDGED, "HB00D10", "moor(0,0)=1 2*night() judge(1,500)=NONE judge(1,501)=NONE judge(1,502)=NONE judge(1,503)=0"
            + " judge(1,509)=0 judge(2,503)=NONE judge(2,504)=1 judge(4,505)=NONE judge(4,506)=3 6*night() judge(1,508)=NONE"
            + " judge(1,509)=0 night() judge(1,509)=NONE night() judge(1,509)=NONE about(8)=10");
        edge(JUDGED, "HB51B50D31D40D30", "judge(1,100)=0 judge(1,110)=0 judge(1,120)=NONE judge(1,101)=NONE judge(2,101111)=1"
            + " judge(2,121111)=1 judge(2,101120)=NONE judge(3,401)=2 judge(4,401)=NONE judge(4,400)=3");
        edge(JUDGED, "H", "judge(1,0)=NONE judge(4,0)=NONE judge(1,100)=0 judge(1,200)=0 judge(1,300)=0 judge(1,400)=0 judge(1,500)=0");
    }

    private void judgedPlaces() {
        edge(JUDGED, ALL_DEEP, "judge(1,200)=0 judge(2,200)=1 judge(3,200)=2 judge(4,200)=3 judge(2,200000)=0 judge(3,200000)=1"
            + " judge(4,200000)=2 judge(3,200000000)=0 judge(4,200000000)=1 judge(4,200000000000)=0 judge(4,200200200200)=0"
            + " judge(4,200200200)=1 judge(4,200200)=2 judge(4,100200200200)=2 judge(4,100200100200)=NONE about(9)=0 about(3)=0");
        edge(JUDGED, ALL_DEEP, "judge(4,100111122133)=NONE judge(4,100111122132)=3 judge(4,100111122143)=NONE judge(4,100100122133)=1");
        String judge = "JUDGED; NONE. BAD: n, row (0 or more, 3 n figures at most).";
        edge(judge, ALL_DEEP, "judge(0,0)=BAD judge(1,0)=NONE judge(4,0)=NONE judge(5,0)=BAD judge(-1,0)=BAD judge(MIN,0)=BAD"
            + " judge(MAX,0)=BAD judge(1,-1)=BAD judge(4,-1)=BAD judge(1,LEAST)=BAD judge(4,LEAST)=BAD judge(4,MOST)=BAD"
            + " judge(0,-1)=BAD judge(0,MOST)=BAD judge(5,MOST)=BAD");
        edge(judge, ALL_DEEP, "judge(1,999)=0 judge(1,1000)=BAD judge(2,999999)=0 judge(2,1000000)=BAD judge(2,1000)=0"
            + " judge(3,999999999)=0 judge(3,1000000000)=BAD judge(4,999999999999)=0 judge(4,1000000000000)=BAD"
            + " judge(1,4294967296)=BAD judge(3,4294967296)=BAD judge(1,4294967396)=BAD judge(4,4294967296)=0");
    }

    /** Three figures that are none of the six doings are one that can not be. */
    private void judgedFigures() {
        edge(JUDGED, ALL_DEEP, "judge(1,1)=0 judge(1,10)=0 judge(1,99)=0 judge(2,1)=1 judge(2,1000)=0 judge(1,600)=0 judge(1,700)=0"
            + " judge(1,800)=0 judge(1,900)=0 moor(0,0)=1 judge(1,200)=NONE judge(1,210)=0 judge(1,290)=0 night()=1 judge(1,300)=NONE"
            + " judge(1,310)=0 judge(1,390)=0");
    }

    private static final String SHARE = "SHARE of a BERTH: if BERTHS come one by one, in each order as likely (in others there is nothing,"
        + " and can be nothing): by how many in the mean DREAMS that are DREAMT by the PLAN of those that have come, are more when it has"
        + " come than they were: a FRACTION. (Who is BERTHED in one that has not come is not DREAMT.)";

    private static String shares(int berth, int above, int below) {
        return " share(" + berth + ",true)=" + above + " share(" + berth + ",false)=" + below;
    }

    private void share() {
        edge(SHARE, "HB50", shares(0, 0, 1));
        edge(SHARE, "HB40D50", shares(0, 0, 1));
        edge(SHARE, "HB50D50", shares(0, 1, 1));
        edge(SHARE, "HB52D50D50D50", shares(0, 2, 1));
        edge(SHARE, "HB50B50D50", shares(0, 1, 2) + shares(1, 1, 2));
        edge(SHARE, "HB50B50B50D50", shares(0, 1, 3) + shares(2, 1, 3));
        edge(SHARE, "HB50B50B50B50D50", shares(0, 1, 4) + shares(3, 1, 4));
        edge(SHARE, "HB50B50B50B50D50D50", shares(0, 1, 2) + shares(3, 1, 2));
        edge(SHARE, "HB50B50B50B50D50D50D50D50D50", shares(0, 1, 1) + shares(3, 1, 1));
        edge(SHARE, "HB10B10B20B20D10D20", shares(0, 5, 12) + shares(1, 5, 12) + shares(2, 7, 12) + shares(3, 7, 12));
        edge(SHARE, "HB10B10B10B20D10D10D20", shares(0, 2, 3) + shares(1, 2, 3) + shares(2, 2, 3) + shares(3, 1, 1));
        edge(SHARE, "HT0T5B00B50D50", shares(0, 0, 1) + shares(1, 1, 1) + " night()" + shares(0, 1, 2) + shares(1, 1, 2));
        edge("`int share(int berth, boolean upper)`: SHARE. UNKNOWN.", "HB50B50B50B50D50", "share(-1,true)=UNKNOWN share(0,true)=1"
            + " share(3,true)=1 share(4,true)=UNKNOWN share(4,false)=UNKNOWN share(MIN,true)=UNKNOWN share(MAX,false)=UNKNOWN");
        edge("`int share(int berth, boolean upper)`: SHARE. UNKNOWN.", "HB50D50", "share(0,false)=1 share(1,false)=UNKNOWN");
    }

    private void shareOfBerthed() {
        edge(SHARE, "HB50B50D50", "moor(0,0)=1" + shares(0, 1, 1) + shares(1, 0, 1) + " night()=1" + shares(0, 0, 1) + shares(1, 0, 1));
        edge(SHARE, "HB50B50D50D50", "moor(0,1)=1" + shares(0, 1, 1) + shares(1, 1, 1));
        edge(SHARE, "HB50B50D90D50", "moor(0,1)=1" + shares(0, 1, 1) + shares(1, 0, 1));
        edge(SHARE, "HB52B90D93D50", "moor(0,0)=1" + shares(0, 0, 1) + shares(1, 1, 1));
        edge(SHARE, "HB52B90D43D50", "moor(0,0)=1" + shares(0, 3, 2) + shares(1, 1, 2));
    }
}
