/** Each promise by itself, with answers that were worked out by hand from the document. */
public final class PromiseTest {
    private static final int UNKNOWN = -1, BAD = -2, LATE = -3, FULL = -4, NONE = -9;
    private static final String WIDEST = "HT0T1T2T3B00B10B20B30D10D20D30D40D50";
    private static final String DEEP = "HB90B90B90B90D10D10D10D10D10";
    private static final int[] WRONG = {-1, Integer.MIN_VALUE, Integer.MAX_VALUE};
    private static final Check CHECK = new Check("PromiseTest");

    public static void main(String[] args) {
        promise01();
        promise02();
        promise03();
        promise04();
        promise05();
        promise06();
        promise07();
        promise08();
        promise09Sleep();
        promise09Roads();
        promise10();
        promise11();
        promise12();
        promise13();
        promise14();
        promise15();
        promise16();
        promise17();
        promise18();
        promise19();
        promise20To22();
        promise23();
        promise24();
        promise25And26();
        promise27And28();
        questionsChangeNothing();
        refusalsChangeNothing();
        CHECK.end();
    }

    private static void due(String what, long got, long want) {
        CHECK.due(what, got, want);
    }

    private static SleepHarbour ported(String text) {
        return Check.ported(text);
    }

    private static void nights(SleepHarbour x, int n) {
        for (int i = 0; i < n; i++) {
            x.night();
        }
    }

    private static void promise01() {
        SleepHarbour x = new SleepHarbour();
        for (int what = 0; what <= 11; what++) {
            due("1: new, about(" + what + ")", x.about(what), 0);
        }
        due("1: new, fault", x.fault(), 0);
        due("1: new, berth", x.berth(0, 0), UNKNOWN);
        due("1: new, dream", x.dream(0, 0), UNKNOWN);
        due("1: new, undo", x.undo(), LATE);
        due("1: new, again", x.again(0), LATE);
        due("1: new, seed", x.seed(1), 0);
        due("1: new, depths", x.depths(0), 20);
        due("1: new, plan", x.plan(true), 0);
        due("1: new, ebb above", x.ebb(0, 10, true), 1);
        due("1: new, ebb below", x.ebb(5, 10, false), 1);
    }

    private static void promise02() {
        SleepHarbour x = new SleepHarbour();
        due("2: below a byte", x.write(-1), BAD);
        due("2: above a byte", x.write(256), BAD);
        due("2: far above", x.write(Integer.MAX_VALUE), BAD);
        due("2: far below", x.write(Integer.MIN_VALUE), BAD);
        due("2: refused bytes are not there", x.about(11), 0);
        due("2: least byte", x.write(0), 1);
        due("2: greatest byte", x.write(255), 2);
        for (int i = 3; i <= 48; i++) {
            due("2: byte " + i, x.write('T'), i);
        }
        due("2: the 49th", x.write('T'), FULL);
        due("2: of BAD and FULL the first told", x.write(256), BAD);
        due("2: still 48", x.about(11), 48);
    }

    private static void promise03() {
        SleepHarbour x = ported("HT7B30");
        due("3: how long it was", x.wipe(), 6);
        due("3: empty now", x.wipe(), 0);
        due("3: no bytes", x.about(11), 0);
        due("3: the port stays", x.about(4), 7);
        due("3: the berth stays", x.berth(0, 0), 3);
        due("3: written from the start", x.write('H'), 1);
        due("3: that is a port", x.fault(), NONE);
    }

    private static void fault(String text, int want) {
        due("4: fault of '" + text + "'", Check.written(text).fault(), want);
    }

    private static void promise04() {
        fault("", 0);
        fault("H", NONE);
        fault("h", 0);
        fault("T", 0);
        fault("HH", 1);
        fault("HX", 1);
        fault("H0", 1);
        fault("HT", 2);
        fault("HT0", NONE);
        fault("HT9", NONE);
        fault("HT/", 2);
        fault("HT:", 2);
        fault("HT00", 3);
        fault("HB", 2);
        fault("HB9", 3);
        fault("HB93", NONE);
        fault("HB94", 3);
        fault("HB0/", 3);
        fault("HB:0", 2);
        fault("HBT0", 2);
        fault("HD", 2);
        fault("HD0", 2);
        fault("HD03", 2);
        fault("HD1", 3);
        fault("HD13", NONE);
        fault("HD94", 3);
        fault("HD9:", 3);
        fault("HD10B20T3D41", NONE);
        fault("HT1XB94", 3);
        fault("HT0T0T0T0", NONE);
        fault("HT0T0T0T0T", 9);
        fault("HB00B00B00B00B0", 13);
        fault("HD10D10D10D10D10", NONE);
        fault("HD10D10D10D10D10D10", 16);
        fault(WIDEST, NONE);
        fault(WIDEST + "T", 36);
        fault(WIDEST + "XXXXXXXXXXXX", 36);
        fault("H" + (char) 0, 1);
        fault("H" + (char) 1, 1);
        fault("HT" + (char) 255, 2);
    }

    private static void promise05() {
        due("5: nothing", new SleepHarbour().port(), LATE);
        due("5: H alone", Check.written("H").port(), 0);
        due("5: all there can be", Check.written(WIDEST).port(), 445);
        due("5: things in any order", Check.written("HD10T5B20D20").port(), 112);
        SleepHarbour x = ported("HT3B20D90D90");
        x.moor(0, 0);
        x.night();
        x.keep(0);
        x.keep(1);
        x.sound(1, 0, 0);
        x.seed(77);
        x.write('T');
        due("5: a fault", x.port(), LATE);
        due("5: refused, the night stays", x.about(3), 1);
        due("5: refused, acts stay", x.about(9), 2);
        due("5: refused, what was kept stays", x.again(0), 1);
        x.night();
        x.write('6');
        due("5: made anew", x.port(), 212);
        due("5: the night is 0", x.about(3), 0);
        due("5: no acts", x.undo(), LATE);
        due("5: slot 0 is gone", x.again(0), LATE);
        due("5: slot 1 is gone", x.again(1), LATE);
        due("5: nobody woke", x.about(8), 0);
        due("5: lies off", x.dream(0, 2), 8);
        due("5: for 0 nights", x.dream(0, 3), 0);
        due("5: so does the other", x.dream(1, 3), 0);
        due("5: sounded stays", x.about(10), 1);
        due("5: the seed stays", x.seed(0), 77);
        due("5: the text stays", x.about(11), 14);
    }

    private static void promise06() {
        SleepHarbour x = ported("HT1T4T2B20B00B53D20D91D92D40");
        due("6: tides", x.about(0), 3);
        due("6: berths", x.about(1), 3);
        due("6: dreams", x.about(2), 4);
        x.moor(0, 0);
        x.moor(2, 1);
        due("6: acts", x.about(9), 2);
        due("6: berthed", x.about(6), 5);
        due("6: lie off", x.about(5), 10);
        nights(x, 4);
        due("6: the night", x.about(3), 4);
        due("6: the tide of night 4 of 3 tides", x.about(4), 4);
        due("6: dreamt", x.about(7), 1);
        due("6: dream 1 came in by itself", x.about(6), 6);
        due("6: woke four times in berth 1, once in berth 0", x.about(8), 5);
        x.sound(3, 3, 1);
        due("6: sounded", x.about(10), 1);
        due("6: bytes", x.about(11), 28);
        for (int wrong : new int[] {-1, 12, Integer.MIN_VALUE, Integer.MAX_VALUE}) {
            due("6: about(" + wrong + ")", x.about(wrong), BAD);
        }
    }

    private static void promise07() {
        SleepHarbour x = ported("HT3B52B41B73D90D93D10");
        x.moor(0, 0);
        x.moor(1, 0);
        due("7: depth", x.berth(0, 0), 5);
        due("7: kind", x.berth(2, 1), 3);
        due("7: water", x.berth(1, 2), 7);
        due("7: who is in it", x.berth(0, 3), 3);
        due("7: nobody in it", x.berth(1, 3), 0);
        x.night();
        due("7: both woke who sleeps there", x.berth(0, 4), 2);
        due("7: the wreck spoilt it", x.berth(0, 0), 4);
        due("7: water of a spoilt one", x.berth(0, 2), 7);
        due("7: dredged", x.berth(2, 0), 8);
        for (int wrong : WRONG) {
            due("7: berth " + wrong, x.berth(wrong, 0), UNKNOWN);
            due("7: what " + wrong, x.berth(0, wrong), BAD);
            due("7: both, berth " + wrong, x.berth(wrong, wrong), UNKNOWN);
        }
        due("7: one berth too far", x.berth(3, 0), UNKNOWN);
        due("7: what 5", x.berth(2, 5), BAD);
    }

    private static void promise08() {
        SleepHarbour x = ported("HB31B02B90D40D31D32D30");
        due("8: draught", x.dream(0, 0), 4);
        due("8: kind", x.dream(1, 1), 1);
        due("8: lies off", x.dream(0, 2), 8);
        due("8: 4 is too much for a child's", x.dream(0, 4), 6);
        due("8: a nightmare in no child's", x.dream(1, 4), 6);
        due("8: a barge of 3", x.dream(2, 4), 7);
        x.moor(0, 1);
        due("8: a double holds one more", x.dream(3, 4), 7);
        x.moor(3, 1);
        due("8: berthed", x.dream(3, 2), 1);
        due("8: does not lie off", x.dream(3, 3), NONE);
        due("8: can be nowhere else", x.dream(3, 4), 0);
        due("8: a double is full", x.dream(1, 4), 4);
        x.night();
        due("8: lain off", x.dream(2, 3), 1);
        due("8: ballast", x.dream(2, 0), 4);
        due("8: no child's any more", x.dream(2, 4), 4);
        x.moor(1, 2);
        due("8: a plain one holds one", x.dream(2, 4), 0);
        x.night();
        due("8: dreamt", x.dream(1, 2), 9);
        due("8: dreamt, not lying off", x.dream(1, 3), NONE);
        due("8: dreamt, can be nowhere", x.dream(1, 4), 0);
        for (int wrong : WRONG) {
            due("8: dream " + wrong, x.dream(wrong, 0), UNKNOWN);
            due("8: what " + wrong, x.dream(0, wrong), BAD);
            due("8: both, dream " + wrong, x.dream(wrong, wrong), UNKNOWN);
        }
        due("8: one dream too far", x.dream(4, 0), UNKNOWN);
        due("8: what 5", x.dream(3, 5), BAD);
    }

    private static void promise09Sleep() {
        SleepHarbour x = ported("HB52D63D50");
        x.moor(0, 0);
        x.moor(1, 0);
        due("9: a wreck ahead spoils the berth for the next", x.night(), 0);
        due("9: two wakings", x.berth(0, 4), 2);
        due("9: one less deep", x.berth(0, 0), 4);
        x = ported("HB52D50D63");
        x.moor(0, 0);
        x.moor(1, 0);
        due("9: a wreck behind spoils nothing for the one ahead", x.night(), 1);
        due("9: the wreck stays", x.berth(0, 3), 2);
        nights(x, 7);
        due("9: no less deep than 0", x.berth(0, 0), 0);
        due("9: woken night by night", x.berth(0, 4), 8);
        x = ported("HB53D60D63");
        x.moor(1, 0);
        due("9: a wreck grounds in a dredged one", x.night(), 0);
        due("9: one less, one more", x.berth(0, 0), 5);
        x = ported("HB63D63");
        x.moor(0, 0);
        due("9: a wreck that floats is dreamt", x.night(), 1);
        due("9: and spoils nothing", x.berth(0, 0), 7);
        x = ported("HT1T4B00D40");
        x.moor(0, 0);
        due("9: low tide", x.night(), 0);
        due("9: high tide", x.night(), 1);
        due("9: nobody is left", x.night(), 0);
        x = ported("HB83");
        nights(x, 3);
        due("9: no deeper than 9", x.berth(0, 0), 9);
        due("9: nights", x.about(3), 3);
    }

    private static void promise09Roads() {
        SleepHarbour x = ported("HB01B90D11D11D82D12");
        nights(x, 2);
        due("9: a nightmare waits two nights", x.about(6), 0);
        x.night();
        due("9: on the third it comes in, in no child's", x.dream(0, 2), 1);
        due("9: the other finds no place", x.dream(1, 2), 8);
        due("9: a barge has 9 at most", x.dream(2, 0), 9);
        due("9: a barge has 3 more", x.dream(3, 0), 4);
        due("9: the first is dreamt", x.night(), 1);
        due("9: and makes place for the other the same night", x.dream(1, 2), 1);
        x = ported("HB50B90D11");
        nights(x, 3);
        due("9: the least berth", x.dream(0, 2), 0);
        x = ported("HB00D12");
        x.moor(0, 0);
        x.night();
        due("9: a barge in a berth takes in nothing", x.dream(0, 0), 1);
        x.tow(0);
        nights(x, 2);
        due("9: on the roads it does", x.dream(0, 0), 3);
        x = ported("HB00D11");
        nights(x, 2);
        x.moor(0, 0);
        x.tow(0);
        nights(x, 2);
        due("9: towed out, it waits anew", x.dream(0, 2), 8);
        x.night();
        due("9: three nights from then", x.dream(0, 2), 0);
        x = ported("HT5B00D50D91");
        nights(x, 2);
        x.moor(0, 0);
        due("9: dreamt ahead of the nightmare", x.night(), 1);
        due("9: which takes its place", x.dream(1, 2), 0);
        due("9: it has woken nobody yet", x.about(8), 0);
    }

    private static void promise10() {
        SleepHarbour x = ported("HB91B92B90D40D10D21D10");
        due("10: no such dream", x.moor(4, 0), UNKNOWN);
        due("10: no such berth", x.moor(0, 3), UNKNOWN);
        for (int wrong : WRONG) {
            due("10: dream " + wrong, x.moor(wrong, 0), UNKNOWN);
            due("10: berth " + wrong, x.moor(0, wrong), UNKNOWN);
        }
        due("10: too large for a child's", x.moor(0, 0), LATE);
        due("10: a nightmare in no child's", x.moor(2, 0), LATE);
        due("10: the first in a double", x.moor(0, 1), 1);
        due("10: it does not lie off", x.moor(0, 2), LATE);
        due("10: the second in a double", x.moor(1, 1), 2);
        due("10: a double is full", x.moor(2, 1), LATE);
        due("10: a plain one", x.moor(2, 2), 1);
        due("10: a plain one is full", x.moor(3, 2), LATE);
        due("10: a child's", x.moor(3, 0), 1);
        due("10: acts", x.about(9), 4);
        x.night();
        due("10: a dreamt one", x.moor(3, 0), LATE);
    }

    private static void promise11() {
        SleepHarbour x = ported("HB00B00D20D20");
        due("11: lies off", x.tow(0), LATE);
        due("11: no such dream", x.tow(2), UNKNOWN);
        for (int wrong : WRONG) {
            due("11: dream " + wrong, x.tow(wrong), UNKNOWN);
        }
        x.night();
        x.moor(0, 1);
        due("11: where it was", x.tow(0), 1);
        due("11: for 0 nights", x.dream(0, 3), 0);
        due("11: the other's nights stay", x.dream(1, 3), 1);
        due("11: it lies off again", x.tow(0), LATE);
        due("11: acts", x.about(9), 3);
        x = ported("HB90D10");
        x.moor(0, 0);
        x.night();
        due("11: a dreamt one", x.tow(0), LATE);
    }

    private static void promise12() {
        SleepHarbour x = ported("HT2B33B12D33D92D11D60");
        due("12: none", x.undo(), LATE);
        x.night();
        x.moor(0, 1);
        x.moor(3, 1);
        String before = state(x);
        x.night();
        due("12: a night", x.undo(), 3);
        CHECK.isTrue("12: all is as ahead of the night", before.equals(state(x)));
        due("12: nobody woke", x.about(8), 0);
        due("12: a berthing", x.undo(), 2);
        due("12: who lies off lies so since when it did", x.dream(3, 3), 1);
        x.tow(0);
        due("12: a towing", x.undo(), 2);
        due("12: back in its berth", x.dream(0, 2), 1);
        due("12: the next", x.undo(), 1);
        due("12: the first", x.undo(), 0);
        due("12: the night is 0", x.about(3), 0);
        due("12: the barge is light again", x.dream(1, 0), 9);
        due("12: the berth is shallow again", x.berth(0, 0), 3);
        due("12: no more", x.undo(), LATE);
        x = ported("H");
        nights(x, 20);
        due("12: 14 at most", x.about(9), 14);
        for (int left = 13; left >= 0; left--) {
            due("12: undone to " + left, x.undo(), left);
        }
        due("12: the first six are forgotten", x.about(3), 6);
        due("12: they can not be undone", x.undo(), LATE);
        due("12: a refused act is none", x.tow(0), UNKNOWN);
        due("12: still none", x.about(9), 0);
    }

    private static void promise13() {
        SleepHarbour x = ported("HT1T4B00B90D40D11D52");
        x.moor(0, 0);
        due("13: in 0 nights", x.later(0, 0), 0);
        due("13: in 1 night", x.later(0, 1), 0);
        due("13: in 2 nights", x.later(0, 2), 9);
        due("13: a nightmare in 2", x.later(1, 2), 8);
        due("13: a nightmare in 3, in the place that is free by then", x.later(1, 3), 0);
        due("13: dreamt in 4", x.later(1, 4), 9);
        due("13: it lies off in 20", x.later(2, 20), 8);
        due("13: 21 nights", x.later(0, 21), BAD);
        due("13: -1 nights", x.later(0, -1), BAD);
        due("13: no such dream", x.later(3, 0), UNKNOWN);
        due("13: both", x.later(-1, 21), UNKNOWN);
        due("13: the night stays", x.about(3), 0);
    }

    private static void promise14() {
        SleepHarbour x = ported("HB22B00D93D30");
        x.moor(0, 0);
        x.moor(1, 0);
        x.night();
        due("14: now", x.wakes(0, 0), 2);
        due("14: in all", x.wakes(0, 1), 4);
        due("14: in 20 nights", x.wakes(0, 20), 42);
        due("14: nobody there", x.wakes(1, 20), 0);
        due("14: 21 nights", x.wakes(0, 21), BAD);
        due("14: -1 nights", x.wakes(0, -1), BAD);
        due("14: no such berth", x.wakes(2, 0), UNKNOWN);
        due("14: both", x.wakes(-1, -1), UNKNOWN);
        due("14: it stays as it is", x.berth(0, 4), 2);
    }

    private static void promise15() {
        SleepHarbour x = ported("HT0T5B31B42B43B90D30D31D42D90");
        due("15: 3 now", x.fits(0, 0), 15);
        due("15: a nightmare fits no child's", x.fits(1, 0), 14);
        due("15: more than 3 fits no child's", x.fits(2, 0), 14);
        due("15: 9 now", x.fits(3, 0), 8);
        due("15: 9 at high tide", x.fits(3, 1), 14);
        due("15: 9, dredged and low", x.fits(3, 4), 8);
        due("15: 9, dredged up to 9", x.fits(3, 6), 12);
        due("15: a barge of 6 by then", x.fits(2, 2), 12);
        x.moor(0, 3);
        due("15: taken places are set aside", x.fits(3, 0), 8);
        x.night();
        due("15: a dreamt one", x.fits(0, 0), 15);
        due("15: 21 nights", x.fits(0, 21), BAD);
        due("15: -1 nights", x.fits(0, -1), BAD);
        due("15: no such dream", x.fits(4, 0), UNKNOWN);
        due("15: both", x.fits(9, 99), UNKNOWN);
        x = ported("HB50D93");
        x.moor(0, 0);
        due("15: a wreck spoils it by then", x.fits(0, 3), 0);
    }

    private static void promise16() {
        SleepHarbour x = ported("HT0T2B33B90D60D91D92");
        due("16: now", x.soonest(1), 0);
        x = ported("HT0T2B33D60D81D92D10");
        due("16: by tide and dredging", x.soonest(0), 1);
        due("16: by more of it", x.soonest(1), 3);
        due("16: a barge of 9", x.soonest(2), 5);
        due("16: no such dream", x.soonest(4), UNKNOWN);
        due("16: far off", x.soonest(Integer.MIN_VALUE), UNKNOWN);
        x.moor(3, 0);
        due("16: berthed", x.soonest(3), 0);
        x.night();
        due("16: dreamt", x.soonest(3), LATE);
        x = ported("HB00D10");
        due("16: never", x.soonest(0), NONE);
        due("16: no berths", ported("HT9D10").soonest(0), NONE);
        due("16: a nightmare in no child's", ported("HB91D11").soonest(0), NONE);
        due("16: a barge grows out of a child's", ported("HT0T9B01D32").soonest(0), NONE);
        due("16: or is in time", ported("HT0T9B01D22").soonest(0), 1);
    }

    private static void plan(String text, int many, int way) {
        SleepHarbour x = ported(text);
        due("17: how many, " + text, x.plan(false), many);
        due("17: the way, " + text, x.plan(true), way);
    }

    private static void promise17() {
        plan("H", 0, 0);
        plan("HB00D50", 0, 0);
        plan("HB50B30D30D50", 2, 21);
        plan("HB50B50D50", 1, 1);
        plan("HB52D63D50", 1, 1);
        plan("HB50D50D50", 1, 1);
        plan("HB50B30D50D90D30", 2, 102);
        plan("HB52D50D50D50", 2, 11);
        plan("HB91B90D30D21", 2, 12);
        plan("HT3B21B02D50D30D30D10", 3, 122);
        plan(DEEP, 4, 1234);
        plan("HB92B92B92B92D10D10D10D10D10", 5, 11223);
        SleepHarbour x = ported("HB50B50D50D50D50");
        x.moor(1, 0);
        due("17: one that is berthed counts", x.plan(false), 2);
        due("17: but has no figure", x.plan(true), 2);
        x = ported("HB52D93D50");
        x.moor(0, 0);
        due("17: a wreck in the berth spoils it", x.plan(false), 0);
        due("17: so it is left", x.plan(true), 0);
        x = ported("HB50D50D40D30");
        x.moor(1, 0);
        x.night();
        due("17: one that is dreamt counts no more", x.plan(false), 1);
        due("17: two lie off", x.plan(true), 1);
        x = ported("HT0T9B10D50");
        due("17: at low tide", x.plan(false), 0);
        x.night();
        due("17: at high tide", x.plan(false), 1);
    }

    private static void judge(SleepHarbour x, int n, long row, int want) {
        due("18: judge(" + n + ", " + row + ")", x.judge(n, row), want);
    }

    private static void promise18() {
        SleepHarbour x = ported("HT0T9B10B02D50D21D93");
        judge(x, 1, 0, NONE);
        judge(x, 1, 1, 0);
        judge(x, 1, 10, 0);
        judge(x, 1, 100, NONE);
        judge(x, 1, 102, 0);
        judge(x, 1, 130, 0);
        judge(x, 2, 100100, 1);
        judge(x, 2, 100110, 1);
        judge(x, 2, 100200, NONE);
        judge(x, 2, 100210, 1);
        judge(x, 1, 200, 0);
        judge(x, 1, 209, 0);
        judge(x, 4, 100000000300L, NONE);
        judge(x, 3, 100000300, 2);
        judge(x, 4, 100000000310L, 3);
        judge(x, 1, 303, 0);
        judge(x, 2, 101401, NONE);
        judge(x, 2, 101400, 1);
        judge(x, 1, 408, 0);
        judge(x, 4, 100000000409L, 3);
        judge(x, 1, 431, 0);
        judge(x, 3, 100000501, NONE);
        judge(x, 3, 100000502, 2);
        judge(x, 1, 510, NONE);
        judge(x, 1, 520, 0);
        judge(x, 1, 511, 0);
        judge(x, 4, 411, 3);
        judge(x, 4, 410, NONE);
        judge(x, 3, 410, 2);
        for (int first = 6; first <= 9; first++) {
            judge(x, 1, 100 * first, 0);
        }
        judge(x, 0, 0, BAD);
        judge(x, 5, 0, BAD);
        judge(x, -1, 0, BAD);
        judge(x, Integer.MAX_VALUE, 0, BAD);
        judge(x, 1, -1, BAD);
        judge(x, 1, 1000, BAD);
        judge(x, 1, 999, 0);
        judge(x, 2, 1000000, BAD);
        judge(x, 3, 1000000000L, BAD);
        judge(x, 4, 1000000000000L, BAD);
        judge(x, 4, 999999999999L, 0);
        judge(x, 4, Long.MAX_VALUE, BAD);
        judge(x, 4, Long.MIN_VALUE, BAD);
        nights(x, 2);
        judge(x, 2, 410, NONE);
        judge(x, 3, 410, 2);
        judge(x, 3, 301, NONE);
    }

    private static void share(SleepHarbour x, int berth, int above, int below) {
        due("19: above, of " + berth, x.share(berth, true), above);
        due("19: below, of " + berth, x.share(berth, false), below);
    }

    private static void promise19() {
        SleepHarbour x = ported("HB50B50D50");
        share(x, 0, 1, 2);
        share(x, 1, 1, 2);
        x.moor(0, 0);
        share(x, 0, 1, 1);
        share(x, 1, 0, 1);
        x = ported("HB52D50D50D50");
        share(x, 0, 2, 1);
        x = ported("HB92B90D50D50");
        share(x, 0, 3, 2);
        share(x, 1, 1, 2);
        x = ported("HB90B90B50D90D50");
        share(x, 0, 2, 3);
        share(x, 2, 2, 3);
        x = ported("HB90B90B90B00D50");
        share(x, 2, 1, 3);
        share(x, 3, 0, 1);
        x = ported("HB90B90B90B90D50");
        share(x, 3, 1, 4);
        x = ported("HB92B92B92B92D10D10D10D10D10");
        share(x, 1, 5, 4);
        due("19: no such berth", x.share(4, true), UNKNOWN);
        for (int wrong : WRONG) {
            due("19: berth " + wrong, x.share(wrong, false), UNKNOWN);
        }
        x = ported("HB52B90D93D50");
        x.moor(0, 0);
        share(x, 0, 0, 1);
        share(x, 1, 1, 1);
        x = ported("HB52B90D43D50");
        x.moor(0, 0);
        share(x, 0, 3, 2);
        share(x, 1, 1, 2);
    }

    private static void promise20To22() {
        SleepHarbour x = ported("HT2T0");
        int[][] wrong = {{0, 0, 0}, {10, 0, 0}, {-1, 0, 0}, {1, -1, 0}, {1, 10, 0}, {1, 0, -1}, {1, 0, 2}};
        for (int[] w : wrong) {
            due("20: wrong", x.sound(w[0], w[1], w[2]), BAD);
        }
        due("22: all", x.depths(0), 20);
        due("22: the first of all", x.depths(1), 0);
        due("20: one", x.sound(6, 0, 1), 1);
        due("22: 0 .. 3 of each kind", x.depths(0), 8);
        due("20: two", x.sound(5, 3, 0), 2);
        due("22: dredged 2 and 3 are left", x.depths(0), 2);
        due("22: the first is a dredged one", x.depths(1), 32);
        due("20: three", x.sound(9, 9, 0), 3);
        due("22: dredged by then", x.depths(0), 2);
        due("20: four", x.sound(9, 9, 1), 4);
        due("22: none", x.depths(0), 0);
        due("22: no first", x.depths(1), NONE);
        due("20: five", x.sound(1, 0, 0), 5);
        due("20: six", x.sound(1, 0, 0), 6);
        due("20: seven", x.sound(1, 0, 0), FULL);
        due("20: of BAD and FULL the first told", x.sound(0, 0, 0), BAD);
        due("21: how much there was", x.unsound(), 6);
        due("21: nothing is left", x.unsound(), 0);
        due("21: nothing is sounded", x.about(10), 0);
        due("22: all again", x.depths(0), 20);
        x.sound(9, 1, 0);
        due("22: plain 9, dredged 8 and 9", x.depths(0), 3);
        due("22: plain comes first", x.depths(1), 9);
        x.unsound();
        x.sound(9, 8, 1);
        due("22: tide 2 on night 8: plain up to 6, no dredged", x.depths(0), 7);
        x.night();
        due("22: nights that pass do not matter", x.depths(0), 7);
        x.wipe();
        x.write('H');
        x.port();
        due("22: the tides of the new port", x.depths(0), 10);
        due("22: of those the first", x.depths(1), 0);
        for (int w : new int[] {-1, 2, Integer.MIN_VALUE, Integer.MAX_VALUE}) {
            due("22: what " + w, x.depths(w), BAD);
        }
    }

    private static void rests(String text, int one, int other, int many, int first) {
        SleepHarbour x = ported(text);
        due("23: how many, " + text, x.rests(one, other, 0), many);
        due("23: the first, " + text, x.rests(one, other, 1), first);
    }

    private static void promise23() {
        rests("HB50D50D50", 0, 1, 8, 1);
        rests("HB52D50D50", 0, 1, 1, 0);
        rests("HB00D50D50", 0, 1, 16, 11);
        rests("HB52D63D50", 0, 1, 4, 10);
        rests("HB52D63D50", 1, 0, 4, 1);
        rests("HB50B90D90D50", 0, 1, 4, 10);
        rests("HB50B90D90D50", 1, 0, 4, 1);
        rests("HB91D30D31", 0, 1, 5, 0);
        rests("HD50D50", 0, 1, 25, 0);
        rests("HT5B00B00D50D50", 0, 1, 2, 1);
        rests("HB50B50B50B50D50D50", 0, 1, 12, 1);
        SleepHarbour x = ported("HB52D50D50D50D93");
        x.moor(2, 0);
        due("23: place for but one in a double", x.rests(0, 1, 0), 8);
        x.tow(2);
        x.moor(3, 0);
        due("23: a wreck behind them is no harm", x.rests(0, 1, 1), 1);
        x = ported("HB52D93D50D50");
        x.moor(0, 0);
        due("23: a wreck ahead of them is", x.rests(1, 2, 1), 11);
        due("23: no such dream", x.rests(3, 0, 0), UNKNOWN);
        due("23: no such other", x.rests(1, 3, 0), UNKNOWN);
        due("23: neither, both one", x.rests(-1, -1, 5), UNKNOWN);
        due("23: both are one", x.rests(1, 1, 0), BAD);
        due("23: both are one that does not lie off", x.rests(0, 0, 0), BAD);
        due("23: what 2", x.rests(1, 2, 2), BAD);
        due("23: what -1, and berthed", x.rests(0, 1, -1), BAD);
        due("23: one is berthed", x.rests(0, 1, 0), LATE);
        due("23: the other is berthed", x.rests(1, 0, 1), LATE);
    }

    private static void ebb(SleepHarbour x, int m, int tenths, int above, int below) {
        due("24: above, " + m + " by " + tenths, x.ebb(m, tenths, true), above);
        due("24: below, " + m + " by " + tenths, x.ebb(m, tenths, false), below);
    }

    private static void promise24() {
        SleepHarbour x = ported("HT5B00B00B90D50D50D50");
        ebb(x, 0, 5, 1, 1);
        ebb(x, 1, 5, 0, 1);
        x.moor(0, 0);
        ebb(x, 1, 3, 7, 10);
        ebb(x, 1, 10, 0, 1);
        ebb(x, 1, 0, 1, 1);
        x.moor(1, 1);
        ebb(x, 1, 5, 3, 4);
        ebb(x, 2, 5, 1, 4);
        ebb(x, 2, 3, 49, 100);
        ebb(x, 1, 3, 91, 100);
        ebb(x, 3, 3, 0, 1);
        x.moor(2, 2);
        ebb(x, 1, 10, 1, 1);
        ebb(x, 2, 10, 0, 1);
        ebb(x, 3, 1, 81, 100);
        ebb(x, 5, 0, 0, 1);
        x = ported("HT5B02D50D50");
        x.moor(0, 0);
        x.moor(1, 0);
        ebb(x, 1, 3, 7, 10);
        ebb(x, 2, 3, 7, 10);
        x = ported("HT4B22D33D20");
        x.moor(0, 0);
        x.moor(1, 0);
        ebb(x, 1, 4, 3, 5);
        x = ported("HT9B00B00B00B00D10D10D10D10");
        for (int i = 0; i < 4; i++) {
            x.moor(i, i);
        }
        ebb(x, 4, 3, 2401, 10000);
        ebb(x, 1, 9, 3439, 10000);
        for (int wrong : WRONG) {
            due("24: m " + wrong, x.ebb(wrong, 0, true), BAD);
            due("24: x " + wrong, x.ebb(0, wrong, false), BAD);
        }
        due("24: m 6", x.ebb(6, 0, true), BAD);
        due("24: x 11", x.ebb(0, 11, true), BAD);
    }

    private static int years(String text, int moored, long seed, int m) {
        SleepHarbour x = ported(text);
        if (moored >= 0) {
            x.moor(moored, 0);
        }
        x.seed(seed);
        return x.years(m);
    }

    private static void promise25And26() {
        SleepHarbour x = ported(DEEP);
        due("25: 0 at first", x.seed(Long.MIN_VALUE), 0);
        due("25: what it was", x.seed(Long.MAX_VALUE), Long.MIN_VALUE);
        due("25: what it was then", x.seed(0), Long.MAX_VALUE);
        due("26: 0 times", x.years(0), BAD);
        due("26: 31 times", x.years(31), BAD);
        for (int wrong : WRONG) {
            due("26: m " + wrong, x.years(wrong), BAD);
        }
        due("26: a refusal leaves the seed", x.seed(0), 0);
        x.years(1);
        due("26: the seed once", x.seed(0), 1442695040888963407L);
        x.years(2);
        due("26: the seed twice", x.seed(1), 1876011003808476466L);
        x.years(1);
        x.years(1);
        due("26: it goes on", x.seed(0), -9049835345590740197L);
        due("26: 16, 29, 26, 13, 15, 19", years(DEEP, -1, 5, 6), 5);
        due("26: 4, 28, 22, 24, 20, 28", years(DEEP, -1, 20, 6), 5);
        due("26: 7, 14, 21, 31, 28, 11", years(DEEP, -1, 6, 6), 3);
        due("26: 20, 16, 12, 3, 22, 27", years(DEEP, 0, 8, 6), 2);
        due("26: 24, 3, 31", years(DEEP, 4, 11, 3), 1);
        due("26: 19, 7, 13, 31, 18, 3", years(DEEP, -1, 15, 6), 6);
        due("26: 22, 25", years(DEEP, 0, 1, 2), 1);
        due("26: 26, 12, 30, 27", years("HB90B00D10D10D10D10", 0, 4, 4), 1 + 1 + 2 + 2);
        due("26: no dream 4, no berth 0", years("HB90D10", 0, 5, 3), 2);
        due("26: no port", years("H", -1, 5, 30), 0);
        x = ported(DEEP);
        x.moor(0, 0);
        x.night();
        x.seed(2);
        due("26: what was dreamt already is told each time", x.years(3), 3);
        due("26: nothing changes", x.about(5), 30);
        due("26: no acts", x.about(9), 2);
    }

    private static void promise27And28() {
        SleepHarbour x = ported("HB33B22D92D91D93");
        for (int wrong : new int[] {-1, 2, Integer.MIN_VALUE, Integer.MAX_VALUE}) {
            due("27: slot " + wrong, x.keep(wrong), UNKNOWN);
            due("28: slot " + wrong, x.again(wrong), UNKNOWN);
        }
        due("28: none were kept", x.again(0), LATE);
        due("27: at first", x.keep(0), 0);
        due("28: none in the other", x.again(1), LATE);
        x.moor(2, 1);
        nights(x, 2);
        due("27: keeping leaves the acts", x.about(9), 3);
        String kept = state(x);
        due("27: on night 2", x.keep(1), 2);
        due("27: still three acts", x.about(9), 3);
        nights(x, 3);
        x.tow(2);
        due("28: gone on from", x.again(1), 2);
        due("28: no acts", x.about(9), 0);
        due("28: none to undo", x.undo(), LATE);
        CHECK.isTrue("28: all is as it was kept", kept.equals(state(x)));
        nights(x, 1);
        due("28: the slot itself goes on in nothing", x.again(1), 2);
        due("28: the first one", x.again(0), 0);
        due("28: lies off", x.dream(2, 2), 8);
        due("28: nobody woke", x.about(8), 0);
        due("27: kept over", x.keep(1), 0);
        due("28: the newer", x.again(1), 0);
        x.night();
        due("28: refused", x.again(2), UNKNOWN);
        due("28: a refusal leaves the acts", x.undo(), 0);
        x = ported("HB33");
        x.sound(1, 1, 1);
        x.seed(9);
        x.keep(0);
        x.unsound();
        x.seed(3);
        x.again(0);
        due("28: not what was sounded", x.about(10), 0);
        due("28: not the seed", x.seed(0), 3);
    }

    /** All that can be read of the port, but for acts. */
    private static String state(SleepHarbour x) {
        StringBuilder s = new StringBuilder();
        for (int what = 0; what <= 11; what++) {
            s.append(what == 9 ? 0 : x.about(what)).append(' ');
        }
        for (int i = 0; i < 5; i++) {
            for (int what = 0; what < 5; what++) {
                s.append(x.berth(i, what)).append(' ').append(x.dream(i, what)).append(' ');
            }
        }
        return s.toString();
    }

    private static SleepHarbour busy() {
        SleepHarbour x = ported("HT1T4B20B31B12B43D30D51D22D93D20");
        x.sound(3, 1, 0);
        x.moor(0, 0);
        x.moor(3, 2);
        x.night();
        return x;
    }

    private static void questionsChangeNothing() {
        SleepHarbour x = busy();
        String before = state(x);
        for (int i = 0; i < 5; i++) {
            x.later(i, 20);
            x.wakes(i, 20);
            x.fits(i, 20);
            x.soonest(i);
            x.share(i, true);
            x.rests(i, (i + 1) % 5, 0);
            x.ebb(i, 5, true);
        }
        x.plan(true);
        x.judge(4, 110000000203L);
        x.years(30);
        x.depths(0);
        x.fault();
        x.keep(0);
        CHECK.isTrue("questions change nothing", before.equals(state(x)));
        due("questions are no acts", x.about(9), 3);
        due("years changed the seed alone", x.seed(0) == 0 ? 0 : 1, 1);
    }

    private static void refusalsChangeNothing() {
        SleepHarbour x = busy();
        String before = state(x);
        x.write(256);
        x.moor(0, 0);
        x.moor(3, 0);
        x.moor(9, 0);
        x.tow(0);
        x.tow(-1);
        x.sound(0, 0, 0);
        x.again(0);
        x.again(5);
        x.keep(5);
        x.years(31);
        CHECK.isTrue("refusals change nothing", before.equals(state(x)));
        due("refusals are no acts", x.about(9), 3);
        due("refusals leave the seed", x.seed(0), 0);
        due("a refused keep keeps nothing", x.again(0), LATE);
        due("the acts can be undone as before", x.undo(), 2);
    }
}
