import java.math.BigInteger;

/** Edges of soundings, rests, chances and slots, and of fractions: terms 3 and 4, promises 20 to 28. */
final class ChanceEdges {
    private static final String FIVE = "HB90B90B90B90D10D10D10D10D10";
    private static final BigInteger TIMES = new BigInteger("6364136223846793005");
    private static final BigInteger AND = new BigInteger("1442695040888963407");
    private final Edges edges;

    ChanceEdges(Edges edges) {
        this.edges = edges;
    }

    void play() {
        sounded();
        soundedDredged();
        depths();
        restsAtPlaces();
        restsAtEdges();
        restsAsked();
        ebb();
        ebbOfWhom();
        seed();
        yearsAsked();
        yearsBerth();
        yearsTow();
        yearsNight();
        yearsIfItCanBe();
        slots();
        slotsKeep();
        fractions();
    }

    private void edge(String sentence, String port, String told) {
        edges.edge(sentence, port, told);
    }

    private static final String SOUNDED = "SOUNDED: that in an unknown BERTH, PLAIN or DREDGED, a DREAM of DRAUGHT g (1 .. 9) on NIGHT t"
        + " (0 .. 9) GROUNDED (1), or not (0) (TIDES are as told; DREDGED: 1 deeper behind each NIGHT from NIGHT 0 on, 9 at most): 6 such"
        + " at most, none at first.";

    private void sounded() {
        edge(SOUNDED, "", "about(10)=0 unsound()=0 sound(1,0,0)=1 about(10)=1 sound(9,9,1)=2 sound(9,0,1)=3 sound(1,9,0)=4 sound(5,5,0)=5"
            + " about(10)=5 sound(5,5,0)=6 about(10)=6 sound(5,5,0)=FULL about(10)=6 sound(1,9,1)=FULL unsound()=6 about(10)=0"
            + " sound(5,5,0)=1");
        String sound = "SOUNDED: how many there are. BAD: g, t, grounded (0, 1); FULL: 6.";
        edge(sound, "", "sound(0,0,0)=BAD sound(1,0,0)=1 sound(9,0,0)=2 sound(10,0,0)=BAD sound(-1,0,0)=BAD sound(MIN,0,0)=BAD"
            + " sound(MAX,0,0)=BAD about(10)=2");
        edge(sound, "", "sound(1,-1,0)=BAD sound(1,0,0)=1 sound(1,9,0)=2 sound(1,10,0)=BAD sound(1,MIN,0)=BAD sound(1,MAX,0)=BAD about(10)=2");
        edge(sound, "", "sound(1,0,-1)=BAD sound(1,0,0)=1 sound(1,0,1)=2 sound(1,0,2)=BAD sound(1,0,MIN)=BAD sound(1,0,MAX)=BAD about(10)=2");
        edge(sound, "", "6*sound(9,9,0) sound(9,9,0)=FULL sound(0,9,0)=BAD sound(10,9,0)=BAD sound(9,-1,0)=BAD sound(9,10,0)=BAD"
            + " sound(9,9,-1)=BAD sound(9,9,2)=BAD about(10)=6 depths(0)=11");
        String unsound = "Nothing is SOUNDED: how much there was.";
        edge(unsound, "", "unsound()=0 sound(1,0,1)=1 depths(0)=2 unsound()=1 unsound()=0 depths(0)=20 6*sound(1,0,1) unsound()=6 about(10)=0");
    }

    private void soundedDredged() {
        edge(SOUNDED, "", "sound(1,0,1)=1 depths(0)=2 depths(1)=0 sound(1,1,0)=2 depths(0)=1 depths(1)=30");
        edge(SOUNDED, "", "sound(1,0,1)=1 sound(1,1,1)=2 depths(0)=1 depths(1)=0");
        edge(SOUNDED, "", "sound(9,8,1)=1 depths(0)=10 depths(1)=0 sound(8,8,0)=2 depths(0)=2 depths(1)=8");
        edge(SOUNDED, "", "sound(9,9,0)=1 depths(0)=11 depths(1)=9");
        edge(SOUNDED, "", "sound(9,9,1)=1 depths(0)=9 depths(1)=0 sound(8,0,0)=2 depths(0)=1 depths(1)=8");
        edge(SOUNDED, "HT2T0T5T1", "sound(9,2,1)=1 depths(0)=6 depths(1)=0 sound(5,3,0)=2 depths(0)=1 depths(1)=31");
        edge(SOUNDED, "HT2T0T5T1", "sound(9,4,0)=1 depths(0)=10 depths(1)=7 unsound()=1 sound(9,7,1)=1 depths(0)=9 depths(1)=0");
        edge(SOUNDED, "HT9", "sound(9,0,0)=1 depths(0)=20 depths(1)=0 sound(9,9,1)=2 depths(0)=0 depths(1)=NONE");
        edge(SOUNDED, "HT9", "sound(9,0,0)=1 sound(9,1,0)=2 wipe() say(H) port()=0 depths(0)=2 depths(1)=9 night() depths(0)=2");
    }

    private void depths() {
        String depths = "DEPTHS: KINDS (0, 3) and DEPTHS (0 .. 9) on NIGHT 0 by which all that is SOUNDED is so: how many (20 there are);"
            + " the first one (10 times KIND and DEPTH); NONE.";
        edge(depths, "", "depths(0)=20 depths(1)=0 sound(1,0,1)=1 depths(0)=2 depths(1)=0");
        edge(depths, "", "sound(9,0,0)=1 depths(0)=2 depths(1)=9 sound(9,0,1)=2 depths(0)=0 depths(1)=NONE");
        edge(depths, "", "sound(1,0,0)=1 depths(0)=18 depths(1)=1 sound(9,0,1)=2 depths(0)=16 depths(1)=1 sound(8,0,0)=3 depths(0)=2"
            + " depths(1)=8 sound(9,1,0)=4 depths(0)=1 depths(1)=38");
        String asked = "DEPTHS: how many (what = 0), the first one (1); NONE. BAD.";
        edge(asked, "", "depths(-1)=BAD depths(0)=20 depths(1)=0 depths(2)=BAD depths(MIN)=BAD depths(MAX)=BAD");
        edge(asked, "", "sound(1,0,0)=1 sound(1,0,1)=2 depths(0)=0 depths(1)=NONE depths(2)=BAD depths(-1)=BAD");
    }

    private static final String RESTS = "RESTS of two DREAMS that LIE OFF: each chooses a BERTH (its number), or none (4; so does one that"
        + " can not be in it, as things are), both together; if both choose one in which there is place for but one, both are LEFT, lying"
        + " off: each has 3, if it is DREAMT in THE NIGHT that is now, 2 less, if it GROUNDS, 1 less, if it was LEFT: pairs in which"
        + " neither has more by another choice (0 .. 4) alone: how many; the first one (10 times the one and the other); NONE.";

    private static String rests(int one, int other, int many, int first) {
        String asked = " rests(" + one + "," + other + ",";
        return asked + "0)=" + many + asked + "1)=" + first;
    }

    private void restsAtPlaces() {
        edge(RESTS, "HB50B50B50B50D50D50", rests(0, 1, 12, 1) + rests(1, 0, 12, 1));
        edge(RESTS, "HB50D50D50", rests(0, 1, 8, 1) + rests(1, 0, 8, 1));
        edge(RESTS, "HB52D50D50", rests(0, 1, 1, 0));
        edge(RESTS, "HB52D50D50D90", "moor(2,0)=1" + rests(0, 1, 8, 1));
        edge(RESTS, "HB52D50D50D90D90", "moor(2,0)=1 moor(3,0)=2" + rests(0, 1, 25, 0));
        edge(RESTS, "HB50D50D50D90", "moor(2,0)=1" + rests(0, 1, 25, 0));
        edge(RESTS, "HB00B50D50D50", rests(0, 1, 6, 12) + rests(1, 0, 6, 12));
        edge(RESTS, "HB50B90D90D50", rests(0, 1, 4, 10) + rests(1, 0, 4, 1));
    }

    private void restsAtEdges() {
        edge(RESTS, "HD50D50", rests(0, 1, 25, 0));
        edge(RESTS, "HB00B00B00B00D10D10", rests(0, 1, 1, 44));
        edge(RESTS, "HB00B00B00B50D50D50", rests(0, 1, 2, 34));
        edge(RESTS, "HB02B02B02B02D10D10", rests(0, 1, 1, 44));
        edge(RESTS, "HB91D30D40", rests(0, 1, 5, 0) + rests(1, 0, 5, 0));
        edge(RESTS, "HB91D11D30", rests(0, 1, 5, 0));
        edge(RESTS, "HB91D30D30", rests(0, 1, 8, 1));
        edge(RESTS, "HB52D63D50", rests(0, 1, 4, 10) + rests(1, 0, 4, 1));
        edge(RESTS, "HB52D50D63", rests(0, 1, 4, 1));
        edge(RESTS, "HB50B50D50D60", rests(0, 1, 6, 2));
        edge(RESTS, "HT0T9B00D90D90", rests(0, 1, 16, 11) + " night()" + rests(0, 1, 8, 1));
        edge(RESTS, "HB40D32D40", rests(0, 1, 8, 1) + " 2*night()" + rests(0, 1, 4, 10));
        edge(RESTS, "HB52D93D50D50", "moor(0,0)=1" + rests(1, 2, 16, 11));
    }

    private void restsAsked() {
        String asked = "RESTS: how many (what = 0), the first one (1); NONE. UNKNOWN: both; BAD: both are one, what; LATE: one does not LIE"
            + " OFF.";
        edge(asked, FIVE, "rests(0,4,0)=12 rests(4,0,0)=12 rests(0,5,0)=UNKNOWN rests(5,0,0)=UNKNOWN rests(-1,0,0)=UNKNOWN"
            + " rests(0,-1,0)=UNKNOWN rests(MIN,0,0)=UNKNOWN rests(0,MAX,0)=UNKNOWN rests(5,5,0)=UNKNOWN rests(-1,-1,2)=UNKNOWN"
            + " rests(5,0,2)=UNKNOWN rests(0,5,-1)=UNKNOWN");
        edge(asked, FIVE, "rests(0,0,0)=BAD rests(4,4,1)=BAD rests(0,1,-1)=BAD rests(0,1,0)=12 rests(0,1,1)=1 rests(0,1,2)=BAD"
            + " rests(0,1,MIN)=BAD rests(0,1,MAX)=BAD rests(0,0,2)=BAD");
        edge(asked, FIVE, "moor(0,0)=1 rests(0,1,0)=LATE rests(1,0,1)=LATE rests(1,2,0)=6 rests(0,0,0)=BAD rests(0,1,2)=BAD"
            + " rests(0,5,0)=UNKNOWN night()=1 rests(0,1,0)=LATE rests(1,0,1)=LATE rests(1,2,0)=12 rests(0,0,0)=BAD rests(1,0,2)=BAD");
    }

    private static final String EBB = "EBB: THE TIDE of THE NIGHT fails in each BERTH by x tenths (0 .. 10), by itself (it is 0 there):"
        + " that m (0 .. 5) or more DREAMS that are BERTHED now are DREAMT then: a FRACTION.";

    private static String ebb(int m, int x, int above, int below) {
        String asked = " ebb(" + m + "," + x + ",";
        return asked + "true)=" + above + asked + "false)=" + below;
    }

    private void ebb() {
        edge(EBB, "HT5B00D50", "moor(0,0)=1" + ebb(1, 0, 1, 1) + ebb(1, 1, 9, 10) + ebb(1, 2, 4, 5) + ebb(1, 5, 1, 2) + ebb(1, 9, 1, 10)
            + ebb(1, 10, 0, 1) + ebb(0, 0, 1, 1) + ebb(0, 5, 1, 1) + ebb(0, 10, 1, 1) + ebb(2, 0, 0, 1) + ebb(5, 0, 0, 1));
        edge(EBB, "HT5B02B02B02D50D50D50D50D50", "moor(0,0)=1 moor(1,0)=2 moor(2,1)=1 moor(3,1)=2 moor(4,2)=1" + ebb(5, 0, 1, 1)
            + ebb(5, 1, 729, 1000) + ebb(5, 5, 1, 8) + ebb(5, 10, 0, 1) + ebb(4, 5, 1, 4) + ebb(3, 5, 1, 2) + ebb(2, 5, 3, 4)
            + ebb(1, 5, 7, 8) + ebb(0, 5, 1, 1));
        edge(EBB, "HT9B00B00B00B00D10D10D10D10D10", "moor(0,0)=1 moor(1,1)=1 moor(2,2)=1 moor(3,3)=1" + ebb(4, 1, 6561, 10000)
            + ebb(4, 3, 2401, 10000) + ebb(4, 9, 1, 10000) + ebb(1, 9, 3439, 10000) + ebb(5, 0, 0, 1) + ebb(1, 10, 0, 1));
        String asked = "`int ebb(int m, int x, boolean upper)`: EBB. BAD: m, x.";
        edge(asked, "HT5B50D50", "ebb(-1,0,true)=BAD ebb(0,0,true)=1 ebb(5,0,true)=0 ebb(6,0,true)=BAD ebb(MIN,0,false)=BAD"
            + " ebb(MAX,0,false)=BAD ebb(0,-1,true)=BAD ebb(0,10,true)=1 ebb(0,11,true)=BAD ebb(0,MIN,false)=BAD ebb(0,MAX,false)=BAD"
            + " ebb(6,11,true)=BAD ebb(-1,-1,false)=BAD");
    }

    private void ebbOfWhom() {
        edge(EBB, "HB00B50D50D10", "moor(0,1)=1 moor(1,0)=1" + ebb(1, 0, 1, 1) + ebb(1, 10, 1, 1) + ebb(2, 0, 0, 1));
        edge(EBB, "HT4B22D33D20", "moor(0,0)=1 moor(1,0)=2" + ebb(1, 4, 3, 5) + ebb(2, 4, 3, 5));
        edge(EBB, "HT4B22D20D33", "moor(0,0)=1 moor(1,0)=2" + ebb(1, 4, 1, 1) + ebb(2, 4, 3, 5));
        edge(EBB, "HT5B00B00D51D50D51", "moor(1,1)=1 night()=1" + ebb(1, 0, 0, 1) + ebb(0, 0, 1, 1) + " 2*night() about(6)=5"
            + ebb(1, 5, 3, 4) + ebb(2, 5, 1, 4) + ebb(3, 0, 0, 1));
        edge(EBB, "HT0T5B00D50", "moor(0,0)=1" + ebb(1, 0, 0, 1) + " night()=0" + ebb(1, 0, 1, 1) + ebb(1, 3, 7, 10));
        edge(EBB, "HT5B30B30B60D50", "moor(0,2)=1" + ebb(1, 7, 1, 1) + ebb(1, 10, 1, 1));
        edge(EBB, "H", ebb(0, 0, 1, 1) + ebb(0, 10, 1, 1) + ebb(1, 0, 0, 1) + ebb(5, 10, 0, 1));
    }

    private static final String YEARS = "YEARS by THE SEED: m times (1 .. 30) x (THE SEED, a long; 0 at first) becomes x times"
        + " 6364136223846793005 and 1442695040888963407 (64 bits, wrapping); what is left of its upper 31 bits by 32: 0 .. 19 that by 4"
        + " (down) is a DREAM that is BERTHED in the BERTH that is left by 4; 20 .. 24 that less 20 DREAM is TOWED, each if it can be; 25"
        + " .. 31 A NIGHT: how many are DREAMT, each time, together. (Nothing changes but THE SEED.)";

    /** The seed behind so many steps, by numbers that know no bound. */
    private static long behind(long seed, int steps) {
        BigInteger x = BigInteger.valueOf(seed);
        for (int i = 0; i < steps; i++) {
            x = x.multiply(TIMES).add(AND).mod(BigInteger.ONE.shiftLeft(64));
        }
        return x.longValue();
    }

    private static int left(long seed) {
        BigInteger x = BigInteger.valueOf(seed).mod(BigInteger.ONE.shiftLeft(64));
        return x.shiftRight(33).mod(BigInteger.valueOf(32)).intValue();
    }

    /** The least seed by which just these are left, one after the other. */
    private static long seedFor(int... lefts) {
        for (long seed = 0; seed < 10_000_000; seed++) {
            long x = seed;
            int i = 0;
            while (i < lefts.length && left(x = behind(x, 1)) == lefts[i]) {
                i++;
            }
            if (i == lefts.length) {
                return seed;
            }
        }
        throw new IllegalStateException("no such seed");
    }

    /** Calls that ask for years by which just these are left. */
    private static String years(int due, int... lefts) {
        return " seed(" + seedFor(lefts) + ") years(" + lefts.length + ")=" + due;
    }

    private void seed() {
        edge(YEARS, "", "seed(0)=0 years(1)=0 seed(0)=1442695040888963407 years(2)=0 seed(0)=1876011003808476466");
        for (long seed : new long[] {0, 1, -1, Long.MAX_VALUE, Long.MIN_VALUE, Long.MAX_VALUE - 1, Long.MIN_VALUE + 1}) {
            edge(YEARS, FIVE, "seed(" + seed + ")=0 years(1) seed(" + seed + ")=" + behind(seed, 1) + " years(30) seed(" + seed + ")="
                + behind(seed, 30) + " years(29) seed(0)=" + behind(seed, 29) + " seed(0)=0");
            edge("`long seed(long v)`: THE SEED is v: what it was.", "", "seed(" + seed + ")=0 seed(5)=" + seed + " seed(0)=5 seed(0)=0");
        }
    }

    private void yearsAsked() {
        String asked = "`int years(int m)`: YEARS. BAD: m.";
        edge(asked, FIVE, "years(-1)=BAD years(0)=BAD years(31)=BAD years(MIN)=BAD years(MAX)=BAD seed(0)=0 years(1)=0 years(30)"
            + " seed(7)=" + behind(0, 31) + " years(31)=BAD years(0)=BAD seed(0)=7");
        edge(asked, "HB90D10", "moor(0,0)=1 night()=1 years(1)=1 years(30)=30 years(2)=2 seed(0)=" + behind(0, 33));
    }

    /** 0 .. 19: only the one dream in the one berth is dreamt, so that all others would be seen. */
    private void yearsBerth() {
        for (int v = 0; v < 20; v++) {
            StringBuilder port = new StringBuilder("H");
            StringBuilder others = new StringBuilder("H");
            for (int berth = 0; berth < 4; berth++) {
                port.append(berth == v % 4 ? "B50" : "B40");
                others.append(berth == v % 4 ? "B40" : "B50");
            }
            for (int dream = 0; dream < 5; dream++) {
                port.append(dream == v / 4 ? "D50" : "D60");
                others.append(dream == v / 4 ? "D50" : "D10");
            }
            edge(YEARS, port.toString(), years(0, v) + years(1, v, 25) + years(0, 25) + " about(5)=31 about(3)=0");
            edge(YEARS, others.toString(), years(0, v, 25));
        }
    }

    private void yearsTow() {
        for (int v = 20; v < 25; v++) {
            StringBuilder moored = new StringBuilder();
            for (int dream = 0; dream < 5; dream++) {
                moored.append("moor(").append(dream).append(',').append(dream % 3).append(") ");
            }
            edge(YEARS, "HB92B92B90B00D10D20D30D40D50", moored + "about(6)=31" + years(5, 25) + years(4, v, 25) + years(0, v) + " about(6)=31");
            int other = v == 20 ? 24 : v - 1;
            edge(YEARS, "HB90D10D10D10D10D10", "moor(" + (v - 20) + ",0)=1" + years(0, v, 25) + years(1, other, 25));
        }
    }

    private void yearsNight() {
        for (int v = 25; v < 32; v++) {
            edge(YEARS, "HB90B00D10D10", "moor(0,0)=1 moor(1,1)=1" + years(1, v) + years(2, v, 25) + " about(3)=0 about(7)=0");
        }
        edge(YEARS, "HT0T0T9B00D50D11", "moor(0,0)=1" + years(0, 25, 31) + years(1, 31, 25, 28) + years(0 + 0 + 1 + 1, 25, 26, 27, 20));
    }

    private void yearsIfItCanBe() {
        edge(YEARS, "HB90D10", years(0, 4, 25) + years(0, 1, 25) + years(1, 0, 25) + years(0, 19, 25) + years(0, 20, 25) + years(0, 24, 25));
        edge(YEARS, "HB91D40D11D30", years(0, 0, 25) + years(0, 4, 25) + years(1, 8, 25));
        edge(YEARS, "HB90B00D10D10", years(1, 0, 4, 25) + years(1, 0, 1, 25) + years(2, 0, 25, 0) + years(2, 0, 25, 20));
        edge(YEARS, "H", years(0, 0, 25) + years(0, 20) + years(0, 31) + " years(30)=0");
        edge(YEARS, FIVE, "moor(0,0)=1 night()=1" + years(1, 0) + years(1, 20) + years(1, 25) + years(2, 0, 25) + years(1 + 1 + 2, 4, 20, 25));
    }

    private void slots() {
        String slots = "SLOTS 0 .. 1 keep where DREAMS are, since when, DRAUGHTS, DEPTHS, who WOKE, THE NIGHT (no ACTS when one goes on).";
        String kept = " dream(0,2)=0 dream(1,2)=8 dream(1,3)=2 dream(1,0)=3 dream(2,2)=9 berth(0,0)=2 berth(0,4)=2 berth(1,0)=7 berth(1,4)=0"
            + " about(3)=2 about(8)=2";
        edge(slots, "HT1T2B40B53D93D12D60", "moor(0,0)=1 moor(2,1)=1 2*night()" + kept + " about(9)=4 keep(1)=2 about(9)=4 3*night()"
            + " tow(0)=0 about(9)=8 again(1)=2" + kept + " about(9)=0 undo()=LATE night() undo()=0" + kept + " tow(0)=0 night() again(1)=2" + kept);
        edge(slots, "HB00D10", "keep(0)=0 night() keep(1)=1 night() again(0)=0 about(3)=0 again(1)=1 about(3)=1 again(0)=0 keep(1)=0"
            + " night() again(1)=0 about(3)=0");
        edge(slots, "HB00D11", "2*night() keep(0)=2 3*night() again(0)=2 dream(0,2)=8 dream(0,3)=2 night() dream(0,2)=0");
        edge(slots, "HB90D10", "sound(1,0,0)=1 seed(5)=0 keep(0)=0 unsound()=1 seed(6)=5 wipe()=7 again(0)=0 about(10)=0 seed(0)=6 about(11)=0");
    }

    private void slotsKeep() {
        String keep = "They are kept: THE NIGHT. UNKNOWN.";
        edge(keep, "HB00D10", "keep(-1)=UNKNOWN keep(0)=0 keep(1)=0 keep(2)=UNKNOWN keep(MIN)=UNKNOWN keep(MAX)=UNKNOWN night() keep(0)=1");
        edge(keep, "", "keep(2)=UNKNOWN keep(0)=0 night() again(0)=0 about(3)=0");
        String again = "They are as they were kept: THE NIGHT. UNKNOWN; LATE: none were kept.";
        edge(again, "HB00D10", "again(-1)=UNKNOWN again(0)=LATE again(1)=LATE again(2)=UNKNOWN again(MIN)=UNKNOWN again(MAX)=UNKNOWN"
            + " keep(0)=0 again(1)=LATE again(0)=0 keep(1)=0 again(1)=0 again(2)=UNKNOWN port()=11 again(0)=LATE again(1)=LATE");
        edge(again, "HB00D10", "keep(2)=UNKNOWN keep(-1)=UNKNOWN again(0)=LATE again(1)=LATE night() keep(1)=1 again(0)=LATE again(1)=1");
    }

    private void fractions() {
        String fractions = "FRACTIONS are told above (upper = true; less than 0, if they are), below, in least terms.";
        // No SHARE is less than 0: a berth that comes can be left alone. 0 in least terms is 0 of 1.
        edge(fractions, "HB00B50B50B50D50D50D50", "share(0,true)=0 share(0,false)=1 share(1,true)=1 share(1,false)=1");
        edge(fractions, "HB52B52B50D50D50D50D50", "share(0,true)=5 share(0,false)=3 share(2,true)=2 share(2,false)=3");
        edge(fractions, "HT5B00B00D50D50", "moor(0,0)=1 moor(1,1)=1 ebb(2,4,true)=9 ebb(2,4,false)=25 ebb(2,10,true)=0 ebb(2,10,false)=1"
            + " ebb(1,4,true)=21 ebb(1,4,false)=25 ebb(0,4,true)=1 ebb(0,4,false)=1");
    }
}
