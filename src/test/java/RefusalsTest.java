import java.util.Arrays;

/**
 * Each refusal and each fault that the document tells, with the order in which they are come to: its answer,
 * fault() behind it, and that all else is as in a twin to which the call never came.
 */
public final class RefusalsTest {
    private static final Check check = new Check();
    private static final int UNKNOWN = -1, OUTSIDE = -2, STATE = -3, FULL = -4;
    private static final int NULL = 1, CAST = 2, INDEX = 3, SIZE = 4;
    private static final int LEAST = Integer.MIN_VALUE, MOST = Integer.MAX_VALUE;
    private static final int[] NO_HOUSE = {-1, 4, 8, LEAST, MOST};
    private static final int[] NO_SHEET = {-1, 4, LEAST, MOST};
    private static final int[] NO_LANE = {-1, 3, LEAST, MOST};

    // What sheets 0 .. 2 hold: a text that could be taken, then two pairs of a season.
    private static final int[] TEXT_AND_PAIRS = {'l', '1', '2', ';', 'p', '3', '4', 1, 0, 5, 2};
    private static int[] row = TEXT_AND_PAIRS;
    private static boolean hasStreet = true;
    private static int readings = 2;

    public static void main(String[] args) {
        street();
        house();
        crateAndDeal();
        weeksAndGift();
        season();
        pairs();
        dealtOtherwise();
        readings();
        sheet();
        putAndCell();
        copy();
        parts();
        latestFault();
        check.end("RefusalsTest");
    }

    // ---- the objects

    /** Sheet 3 has nothing, house 3 has no stock, the latest fault is INDEX. */
    private static LemonDeals begun() {
        LemonDeals x = new LemonDeals();
        if (hasStreet) {
            Check.take(x, "l07;p60;t21;b30;p00");
            x.weeks(1);
            for (int r = 0; r < readings; r++) {
                x.reading(r % 3, r < 2 ? 2 : 0);
            }
            x.tell(2);
            x.lose(3);
        }
        for (int lane = 0; lane < 3; lane++) {
            Check.write(x, lane, lane, row);
        }
        x.put(0, 60, 0);
        return x;
    }

    private static void tried(long due, int fault, String name, int... args) {
        LemonDeals x = begun();
        LemonDeals twin = begun();
        String call = Calls.told(name, args);
        check.due("fault() ahead", x.fault(), INDEX);
        check.due(call, Calls.ask(x, name, args), due);
        check.due("fault() behind " + call, x.fault(), fault);
        check.same("all behind " + call, Calls.portrait(x), Calls.portrait(twin));
    }

    private static void refusedOnce(int due, String name, int... args) {
        tried(Calls.answersLong(name) ? Long.MIN_VALUE : due, Calls.namesFaults(name) ? 0 : INDEX, name, args);
    }

    private static void faultedOnce(int fault, String name, int... args) {
        tried(Calls.answersLong(name) ? Long.MIN_VALUE : -10 - fault, fault, name, args);
    }

    private static void refused(String words, int due, String name, int... args) {
        check.sentence(words, () -> refusedOnce(due, name, args));
    }

    private static void faulted(String words, int fault, String name, int... args) {
        check.sentence(words, () -> faultedOnce(fault, name, args));
    }

    private static int[] with(int[] args, int at, int value) {
        int[] changed = args.clone();
        changed[at] = value;
        return changed;
    }

    /** The call with each of the values in place of its argument at a place. */
    private static void refusedEach(String words, int due, int at, int[] values, String name, int... args) {
        check.sentence(words, () -> {
            for (int value : values) {
                refusedOnce(due, name, with(args, at, value));
            }
        });
    }

    private static void faultedEach(String words, int fault, int at, int[] values, String name, int... args) {
        check.sentence(words, () -> {
            for (int value : values) {
                faultedOnce(fault, name, with(args, at, value));
            }
        });
    }

    private static int[] beyond(int least, int most) {
        return new int[] {least - 1, most + 1, LEAST, MOST};
    }

    private static void withoutStreet(Runnable rows) {
        hasStreet = false;
        rows.run();
        hasStreet = true;
    }

    private static void withRow(int[] cells, Runnable rows) {
        row = cells;
        rows.run();
        row = TEXT_AND_PAIRS;
    }

    // ---- promises 2 to 6

    private static void street() {
        streetOf("2");
        withoutStreet(() -> streetOf("2, without a street"));
    }

    private static void streetOf(String p) {
        refusedEach(p + ": UNKNOWN", UNKNOWN, 0, NO_SHEET, "street", 0, 0, 0, 7);
        refusedEach(p + ": OUTSIDE: lane", OUTSIDE, 1, NO_LANE, "street", 0, 0, 0, 7);
        for (int sheet = 0; sheet < 3; sheet++) {
            int next = (sheet + 1) % 3;
            int last = (sheet + 2) % 3;
            faulted(p + ": CAST", CAST, "street", sheet, next, 0, 7);
            faulted(p + ": CAST", CAST, "street", sheet, last, 0, 7);
            faulted(p + ": nothing is no CAST: NULL", NULL, "street", 3, sheet, 0, 7);
            faultedEach(p + ": SIZE: n below 0", SIZE, 3, new int[] {-1, -7, LEAST}, "street", sheet, sheet, 0, 7);
            faultedEach(p + ": INDEX: i", INDEX, 2, new int[] {-1, 5, 11, 12, LEAST, MOST},
                "street", sheet, sheet, 0, 7);
            faultedEach(p + ": INDEX: n", INDEX, 3, new int[] {12, MOST}, "street", sheet, sheet, 0, 7);
            faultedEach(p + ": INDEX, if none is taken, too", INDEX, 2, new int[] {-1, 12, LEAST, MOST},
                "street", sheet, sheet, 0, 0);
            refused(p + ": none of how many there are is no INDEX", -100, "street", sheet, sheet, 11, 0);
        }
        refused(p + ": UNKNOWN ahead of OUTSIDE", UNKNOWN, "street", 4, 3, 0, 7);
        refused(p + ": UNKNOWN ahead of FAULTS", UNKNOWN, "street", 4, 0, -1, -1);
        refused(p + ": OUTSIDE ahead of NULL", OUTSIDE, "street", 3, 3, 0, 7);
        refused(p + ": OUTSIDE ahead of SIZE, INDEX", OUTSIDE, "street", 0, 3, -1, -1);
        faulted(p + ": CAST ahead of SIZE", CAST, "street", 0, 1, 0, -1);
        faulted(p + ": CAST ahead of INDEX", CAST, "street", 0, 1, -1, 7);
        faulted(p + ": NULL ahead of SIZE", NULL, "street", 3, 1, 0, -1);
        faulted(p + ": NULL ahead of INDEX", NULL, "street", 3, 1, -1, 7);
        faulted(p + ": SIZE ahead of INDEX", SIZE, "street", 0, 0, -1, -1);
        faulted(p + ": SIZE ahead of INDEX", SIZE, "street", 0, 0, 12, LEAST);
        faulted(p + ": INDEX ahead of a FIRST FAULT", INDEX, "street", 0, 0, 6, 6);
        refused(p + ": -100 less a FIRST FAULT", -100, "street", 1, 1, 1, 7);
        refused(p + ": -100 less a FIRST FAULT", -103, "street", 1, 1, 0, 3);
        refused(p + ": -100 less a FIRST FAULT", -107, "street", 1, 1, 0, 11);
    }

    private static void house() {
        refusedEach("3: UNKNOWN", UNKNOWN, 0, NO_HOUSE, "ofHouse", 0, 1);
        refusedEach("3: OUTSIDE", OUTSIDE, 1, beyond(0, 6), "ofHouse", 0, 1);
        refused("3: UNKNOWN ahead of OUTSIDE", UNKNOWN, "ofHouse", 4, 7);
        refusedEach("4: UNKNOWN", UNKNOWN, 0, NO_HOUSE, "anger", 0, 3);
        refusedEach("4: OUTSIDE: v is 0 .. 9", OUTSIDE, 1, beyond(0, 9), "anger", 0, 3);
        refused("4: UNKNOWN ahead of OUTSIDE", UNKNOWN, "anger", 4, 10);
        withoutStreet(() -> {
            refused("3: UNKNOWN: there are no HOUSES", UNKNOWN, "ofHouse", 0, 0);
            refused("4: UNKNOWN: there are no HOUSES", UNKNOWN, "anger", 0, 3);
        });
    }

    private static void crateAndDeal() {
        refusedEach("5: OUTSIDE: v is 0 .. 99", OUTSIDE, 0, beyond(0, 99), "crate", 3);
        refusedEach("6: UNKNOWN", UNKNOWN, 0, NO_HOUSE, "deal", 0, 3);
        refusedEach("6: OUTSIDE: a CRATE is 0 .. 99", OUTSIDE, 1, beyond(0, 99), "deal", 0, 3);
        refused("6: UNKNOWN ahead of OUTSIDE", UNKNOWN, "deal", 4, 100);
        withoutStreet(() -> {
            refusedEach("5: STATE: there is no STREET", STATE, 0, new int[] {0, 99}, "crate", 3);
            refusedEach("5: STATE ahead of OUTSIDE", STATE, 0, beyond(0, 99), "crate", 3);
            refused("6: UNKNOWN: there are no HOUSES", UNKNOWN, "deal", 0, 3);
        });
    }

    // ---- promises 7 to 9

    private static void weeksAndGift() {
        refusedEach("7: OUTSIDE: n is 1 .. 60", OUTSIDE, 0, beyond(1, 60), "weeks", 1);
        refusedEach("8: UNKNOWN", UNKNOWN, 0, NO_HOUSE, "gift", 0);
        refused("8: STATE: it has none", STATE, "gift", 3);
        withoutStreet(() -> {
            refusedEach("7: OUTSIDE ahead of STATE", OUTSIDE, 0, beyond(1, 60), "weeks", 1);
            refusedEach("7: STATE: there is no STREET", STATE, 0, new int[] {1, 60}, "weeks", 1);
            refused("8: UNKNOWN: there are no HOUSES", UNKNOWN, "gift", 0);
        });
    }

    private static void season() {
        refusedEach("9: UNKNOWN: SHEET", UNKNOWN, 0, NO_SHEET, "season", 0, 0, 7, 2, 0);
        refusedEach("9: OUTSIDE: lane", OUTSIDE, 1, NO_LANE, "season", 0, 0, 7, 2, 0);
        refusedEach("9: OUTSIDE: n is 0 .. 20", OUTSIDE, 3, beyond(0, 20), "season", 0, 0, 7, 2, 0);
        refusedEach("9: OUTSIDE: what is 0 .. 4, 10 .. 17", OUTSIDE, 4, new int[] {-1, 5, 9, 18, LEAST, MOST},
            "season", 0, 0, 7, 2, 0);
        for (int sheet = 0; sheet < 3; sheet++) {
            faulted("9: CAST", CAST, "season", sheet, (sheet + 1) % 3, 7, 2, 0);
            faulted("9: CAST", CAST, "season", sheet, (sheet + 2) % 3, 7, 2, 0);
            faulted("9: nothing is no CAST: NULL", NULL, "season", 3, sheet, 7, 2, 0);
            faultedEach("9: INDEX: i", INDEX, 2, new int[] {-1, 8, 11, 12, LEAST, MOST},
                "season", sheet, sheet, 7, 2, 0);
            faultedEach("9: INDEX: 2 n", INDEX, 3, new int[] {3, 20}, "season", sheet, sheet, 7, 2, 0);
            faulted("9: INDEX: half a pair", INDEX, "season", sheet, sheet, 10, 1, 0);
            faultedEach("9: INDEX, if none is taken, too", INDEX, 2, new int[] {-1, 12, LEAST, MOST},
                "season", sheet, sheet, 0, 0, 0);
        }
        refused("9: UNKNOWN ahead of OUTSIDE", UNKNOWN, "season", 4, 3, 7, 21, 5);
        refused("9: OUTSIDE ahead of NULL: lane", OUTSIDE, "season", 3, 3, 7, 2, 0);
        refused("9: OUTSIDE ahead of NULL: n", OUTSIDE, "season", 3, 0, 7, 21, 0);
        refused("9: OUTSIDE ahead of NULL: what", OUTSIDE, "season", 3, 0, 7, 2, 5);
        refused("9: OUTSIDE ahead of CAST: n", OUTSIDE, "season", 0, 1, 7, -1, 0);
        refused("9: OUTSIDE ahead of CAST: what", OUTSIDE, "season", 0, 1, 7, 2, 9);
        refused("9: OUTSIDE ahead of INDEX: n", OUTSIDE, "season", 0, 0, -1, 21, 0);
        refused("9: OUTSIDE ahead of INDEX: what", OUTSIDE, "season", 0, 0, -1, 2, 18);
        faulted("9: CAST ahead of INDEX", CAST, "season", 0, 1, -1, 2, 0);
        faulted("9: NULL ahead of INDEX", NULL, "season", 3, 1, -1, 2, 0);
        faulted("9: INDEX ahead of the pairs' OUTSIDE", INDEX, "season", 0, 0, 0, 6, 0);
        withoutStreet(RefusalsTest::seasonWithoutStreet);
    }

    private static void seasonWithoutStreet() {
        refused("9: STATE: there is no STREET", STATE, "season", 0, 0, 7, 2, 0);
        refused("9: STATE, of no pairs too", STATE, "season", 0, 0, 0, 0, 1);
        refused("9: UNKNOWN ahead of STATE", UNKNOWN, "season", 4, 0, 7, 2, 0);
        refused("9: OUTSIDE ahead of STATE: lane", OUTSIDE, "season", 0, 3, 7, 2, 0);
        refused("9: OUTSIDE ahead of STATE: n", OUTSIDE, "season", 0, 0, 7, 21, 0);
        refused("9: OUTSIDE ahead of STATE: what", OUTSIDE, "season", 0, 0, 7, 2, 5);
        refused("9: STATE ahead of CAST", STATE, "season", 0, 1, 7, 2, 0);
        refused("9: STATE ahead of NULL", STATE, "season", 3, 0, 7, 2, 0);
        refused("9: STATE ahead of INDEX", STATE, "season", 0, 0, -1, 2, 0);
        refused("9: STATE ahead of the pairs' OUTSIDE", STATE, "season", 0, 0, 0, 1, 0);
    }

    /** House 3 has no stock, so that a gift of it is an act that can't be. */
    private static void pairs() {
        ofPairs("9: OUTSIDE: the second is none of 0 .. 2", OUTSIDE,
            new int[][] {{0, 3}, {0, -1}, {0, 127}, {0, -128}});
        ofPairs("9: OUTSIDE: it is 0 and the first is not 0 .. 9", OUTSIDE, new int[][] {{10, 0}, {-1, 0}, {127, 0}});
        ofPairs("9: OUTSIDE: it is 2 and the first is not 0 .. 99", OUTSIDE, new int[][] {{100, 2}, {-1, 2}, {127, 2}});
        ofPairs("9: UNKNOWN: the first is no HOUSE", UNKNOWN, new int[][] {{4, 1}, {-1, 1}, {7, 1}, {8, 1}, {127, 1}});
        ofPairs("9: the first pair that has any", UNKNOWN, new int[][] {{4, 1, 0, 3}, {1, 0, 4, 1, 10, 0}});
        ofPairs("9: the first pair that has any", OUTSIDE, new int[][] {{0, 3, 4, 1}, {10, 0, 4, 1}, {100, 2, 4, 1}});
        ofPairs("9: all of them, ahead of any act", OUTSIDE,
            new int[][] {{3, 1, 0, 3}, {3, 1, 1, 0, 10, 0}, {3, 1, 100, 2}});
        ofPairs("9: all of them, ahead of any act", UNKNOWN, new int[][] {{3, 1, 4, 1}});
        ofPairs("9: the second's OUTSIDE, though the first is no HOUSE", OUTSIDE, new int[][] {{4, 3}, {-1, -1}});
        int[] last = new int[40];
        last[39] = 3;
        ofPairs("9: the last of 20 pairs, too", OUTSIDE, new int[][] {last});
        wide("9: an int is no byte", 2, new int[][] {{256, 1}, {0, 256}, {0, 258}, {65536, 0}, {65538, 2}, {LEAST, 0}});
        wide("9: a short is no byte", 1, new int[][] {{256, 0}, {1, 256}, {260, 2}, {-32768, 2}});
    }

    private static void ofPairs(String words, int due, int[][] rows) {
        for (int[] cells : rows) {
            withRow(cells, () -> {
                for (int what : new int[] {0, 1, 2, 3, 4, 10, 17}) {
                    refused(words + " " + Arrays.toString(cells), due, "season", 1, 1, 0, cells.length / 2, what);
                }
            });
        }
    }

    private static void wide(String words, int lane, int[][] rows) {
        for (int[] cells : rows) {
            int due = cells[1] == 1 ? UNKNOWN : OUTSIDE;
            withRow(cells, () -> refused(words, due, "season", lane, lane, 0, cells.length / 2, 0));
        }
    }

    // ---- promises 10 to 13

    private static void dealtOtherwise() {
        refusedEach("10: OUTSIDE: n is 0 .. 12", OUTSIDE, 0, beyond(0, 12), "calm", 2, 3);
        refusedEach("10: OUTSIDE: v is 0 .. 9", OUTSIDE, 1, beyond(0, 9), "calm", 2, 3);
        refusedEach("11: OUTSIDE", OUTSIDE, 0, beyond(0, 1), "wonder", 0);
        refusedEach("12: UNKNOWN", UNKNOWN, 0, NO_HOUSE, "otherwise", 0);
        refusedEach("13: OUTSIDE", OUTSIDE, 0, beyond(0, 1), "halves", 0);
        withoutStreet(() -> {
            refused("10: STATE: there is no STREET", STATE, "calm", 0, 9);
            refused("10: STATE ahead of OUTSIDE: n", STATE, "calm", 13, 3);
            refused("10: STATE ahead of OUTSIDE: v", STATE, "calm", 2, 10);
            refusedEach("11: STATE: there is no STREET", STATE, 0, new int[] {0, 1}, "wonder", 0);
            refusedEach("11: STATE ahead of OUTSIDE", STATE, 0, beyond(0, 1), "wonder", 0);
            refused("12: UNKNOWN: there are no HOUSES", UNKNOWN, "otherwise", 0);
            refusedEach("13: STATE: there is no STREET", STATE, 0, new int[] {0, 1}, "halves", 0);
            refusedEach("13: STATE ahead of OUTSIDE", STATE, 0, beyond(0, 1), "halves", 0);
        });
    }

    // ---- promises 14 to 19

    private static void readings() {
        refusedEach("14: UNKNOWN", UNKNOWN, 0, NO_HOUSE, "reading", 0, 2);
        refusedEach("14: OUTSIDE: v is 0 .. 99", OUTSIDE, 1, beyond(0, 99), "reading", 0, 2);
        refused("14: UNKNOWN ahead of OUTSIDE", UNKNOWN, "reading", 4, 100);
        refusedEach("15: OUTSIDE: k is 0 .. as many as there are", OUTSIDE, 0, beyond(0, 2), "back", 0);
        readings = 8;
        refusedEach("14: FULL: 8 at most", FULL, 1, new int[] {0, 2, 99}, "reading", 0, 2);
        refusedEach("14: UNKNOWN ahead of FULL", UNKNOWN, 0, NO_HOUSE, "reading", 0, 2);
        refusedEach("14: OUTSIDE ahead of FULL", OUTSIDE, 1, beyond(0, 99), "reading", 0, 2);
        refusedEach("15: OUTSIDE: k is 0 .. 8 of 8", OUTSIDE, 0, beyond(0, 8), "back", 0);
        readings = 0;
        refusedEach("15: OUTSIDE: k is 0 of none", OUTSIDE, 0, beyond(0, 0), "back", 0);
        readings = 2;
        refusedEach("16: UNKNOWN", UNKNOWN, 0, NO_HOUSE, "tempers", 0);
        refusedEach("17: UNKNOWN", UNKNOWN, 0, NO_HOUSE, "kinds", 0);
        refusedEach("18: OUTSIDE", OUTSIDE, 0, beyond(0, 2), "crates", 0);
        refusedEach("19: LOST: UNKNOWN", UNKNOWN, 0, NO_HOUSE, "odds", 0, 2, 0);
        refusedEach("19: LOST: OUTSIDE: v is 0 .. 99", OUTSIDE, 1, beyond(0, 99), "odds", 0, 2, 0);
        refusedEach("19: LOST: OUTSIDE: which is 0, 1", OUTSIDE, 2, beyond(0, 1), "odds", 0, 2, 0);
        withoutStreet(() -> {
            refused("14: UNKNOWN: there are no HOUSES", UNKNOWN, "reading", 0, 2);
            refusedEach("15: OUTSIDE, without a street", OUTSIDE, 0, beyond(0, 0), "back", 0);
            refused("16: UNKNOWN: there are no HOUSES", UNKNOWN, "tempers", 0);
            refused("17: UNKNOWN: there are no HOUSES", UNKNOWN, "kinds", 0);
            refusedEach("18: STATE: there is no STREET", STATE, 0, new int[] {0, 1, 2}, "crates", 0);
            refusedEach("18: STATE ahead of OUTSIDE", STATE, 0, beyond(0, 2), "crates", 0);
            refused("19: LOST: UNKNOWN: there are no HOUSES", UNKNOWN, "odds", 0, 0, 0);
        });
    }

    // ---- promises 20 to 24

    private static void sheet() {
        refusedEach("20: UNKNOWN", UNKNOWN, 0, NO_SHEET, "sheet", 0, 0, 5);
        refusedEach("20: OUTSIDE: lane", OUTSIDE, 1, NO_LANE, "sheet", 0, 0, 5);
        refusedEach("20: OUTSIDE: n above 60", OUTSIDE, 2, new int[] {61, 64, 100, MOST}, "sheet", 0, 0, 5);
        faultedEach("20: SIZE: n below 0", SIZE, 2, new int[] {-1, -60, LEAST}, "sheet", 0, 0, 5);
        refusedEach("20: nothing stays nothing: OUTSIDE", OUTSIDE, 2, new int[] {61, MOST}, "sheet", 3, 0, 5);
        faultedEach("20: nothing stays nothing: SIZE", SIZE, 2, new int[] {-1, LEAST}, "sheet", 3, 0, 5);
        refused("20: UNKNOWN ahead of OUTSIDE: lane", UNKNOWN, "sheet", 4, 3, 5);
        refused("20: UNKNOWN ahead of OUTSIDE: n", UNKNOWN, "sheet", 4, 0, 61);
        refused("20: UNKNOWN ahead of SIZE", UNKNOWN, "sheet", 4, 0, -1);
        refused("20: OUTSIDE ahead of SIZE", OUTSIDE, "sheet", 0, 3, -1);
        refusedEach("21: UNKNOWN", UNKNOWN, 0, NO_SHEET, "lose", 0);
    }

    private static void putAndCell() {
        refusedEach("22: UNKNOWN", UNKNOWN, 0, NO_SHEET, "put", 0, 0, 5);
        faulted("22: NULL", NULL, "put", 3, 0, 5);
        faulted("22: NULL ahead of INDEX", NULL, "put", 3, -1, 5);
        refused("22: UNKNOWN ahead of INDEX", UNKNOWN, "put", 4, -1, 5);
        refusedEach("23: LOST: UNKNOWN", UNKNOWN, 0, NO_SHEET, "cell", 0, 0, 0);
        refusedEach("23: LOST: OUTSIDE: lane", OUTSIDE, 2, NO_LANE, "cell", 0, 0, 0);
        for (int sheet = 0; sheet < 3; sheet++) {
            int[] beyond = {-1, 11, 12, 59, 60, LEAST, MOST};
            faultedEach("22: INDEX", INDEX, 1, beyond, "put", sheet, 0, 5);
            faultedEach("23: INDEX", INDEX, 1, beyond, "cell", sheet, 0, sheet);
            faulted("23: CAST", CAST, "cell", sheet, 0, (sheet + 1) % 3);
            faulted("23: CAST", CAST, "cell", sheet, 0, (sheet + 2) % 3);
            faulted("23: CAST ahead of INDEX", CAST, "cell", sheet, -1, (sheet + 1) % 3);
            faulted("23: nothing is no CAST: NULL", NULL, "cell", 3, 0, sheet);
            faulted("23: NULL ahead of INDEX", NULL, "cell", 3, -1, sheet);
        }
        refused("23: UNKNOWN ahead of INDEX", UNKNOWN, "cell", 4, -1, 0);
        refused("23: OUTSIDE ahead of NULL", OUTSIDE, "cell", 3, 0, 3);
        refused("23: OUTSIDE ahead of INDEX", OUTSIDE, "cell", 0, -1, 3);
        withRow(new int[0], () -> {
            faulted("22: INDEX of a row of none", INDEX, "put", 0, 0, 5);
            faulted("23: INDEX of a row of none", INDEX, "cell", 0, 0, 0);
            faulted("23: CAST of a row of none", CAST, "cell", 0, 0, 1);
        });
    }

    private static void copy() {
        refusedEach("24: UNKNOWN: the one", UNKNOWN, 0, NO_SHEET, "copy", 0, 0, 0, 1, 3);
        refusedEach("24: UNKNOWN: the other", UNKNOWN, 2, NO_SHEET, "copy", 0, 0, 0, 1, 3);
        faulted("24: NULL: the first", NULL, "copy", 3, 0, 0, 1, 3);
        faulted("24: NULL: the other", NULL, "copy", 0, 0, 3, 1, 3);
        faulted("24: NULL: both", NULL, "copy", 3, 0, 3, 1, 3);
        faulted("24: NULL, if none is taken, too", NULL, "copy", 0, 0, 3, 0, 0);
        for (int sheet = 0; sheet < 3; sheet++) {
            int[] at = {sheet, 0, sheet, 1, 3};
            faultedEach("24: INDEX: i", INDEX, 1, new int[] {-1, 9, 11, 12, LEAST, MOST}, "copy", at);
            faultedEach("24: INDEX: j", INDEX, 3, new int[] {-1, 9, 11, 12, LEAST, MOST}, "copy", at);
            faultedEach("24: INDEX: n below 0 or beyond", INDEX, 4, new int[] {-1, 11, 12, LEAST, MOST}, "copy", at);
            faultedEach("24: INDEX: n beyond", INDEX, 4, new int[] {11, MOST}, "copy", sheet, 1, sheet, 0, 3);
            faultedEach("24: INDEX: i, if none is taken, too", INDEX, 1, new int[] {-1, 12}, "copy", with(at, 4, 0));
            faultedEach("24: INDEX: j, if none is taken, too", INDEX, 3, new int[] {-1, 12}, "copy", with(at, 4, 0));
            faulted("24: CAST: unlike LANES", CAST, "copy", sheet, 0, (sheet + 1) % 3, 1, 3);
            faulted("24: CAST: unlike LANES", CAST, "copy", sheet, 0, (sheet + 2) % 3, 1, 3);
            faulted("24: CAST ahead of INDEX: i", CAST, "copy", sheet, -1, (sheet + 1) % 3, 1, 3);
            faulted("24: CAST ahead of INDEX: n", CAST, "copy", sheet, 0, (sheet + 1) % 3, 1, -1);
        }
        check.sentence("24: NULL ahead of CAST: nothing has no LANE, whatever it had", RefusalsTest::copyOfWhatWasLost);
        refused("24: UNKNOWN: the other, ahead of NULL: the first", UNKNOWN, "copy", 3, 0, 4, 1, 3);
        refused("24: UNKNOWN: the one, ahead of NULL: the other", UNKNOWN, "copy", 4, 0, 3, 1, 3);
        refused("24: UNKNOWN ahead of INDEX", UNKNOWN, "copy", 0, -1, 4, -1, -1);
        faulted("24: NULL: the first, ahead of INDEX", NULL, "copy", 3, -1, 0, 1, 3);
        faulted("24: NULL: the other, ahead of INDEX", NULL, "copy", 0, 0, 3, -1, -1);
    }

    private static void copyOfWhatWasLost() {
        for (int lane = 0; lane < 3; lane++) {
            for (int lost = 0; lost < 3; lost++) {
                LemonDeals x = begun();
                x.sheet(3, lost, 11);
                x.lose(3);
                check.faults(x, "copy from it to lane " + lane, x.copy(3, 0, lane, 0, 1), NULL);
                check.faults(x, "copy to it from lane " + lane, x.copy(lane, 0, 3, 0, 1), NULL);
                check.faults(x, "its TEXT of lane " + lane, x.street(3, lane, 0, 7), NULL);
                check.faults(x, "its SEASON of lane " + lane, x.season(3, lane, 7, 2, 0), NULL);
                check.faults(x, "a cell put to it", x.put(3, 0, 1), NULL);
                check.due("a cell of it in lane " + lane, x.cell(3, 0, lane), Long.MIN_VALUE);
                check.due("fault() behind it", x.fault(), NULL);
            }
        }
    }

    // ---- promises 25 to 30

    private static void parts() {
        refusedEach("25: UNKNOWN", UNKNOWN, 0, NO_HOUSE, "tell", 0);
        refusedEach("26: UNKNOWN", UNKNOWN, 0, NO_HOUSE, "knock", 0);
        refusedEach("27: UNKNOWN", UNKNOWN, 0, NO_HOUSE, "as", 0, 0);
        refusedEach("27: OUTSIDE: a kind is 0 .. 2", OUTSIDE, 1, beyond(0, 2), "as", 2, 0);
        refused("27: UNKNOWN ahead of OUTSIDE", UNKNOWN, "as", 4, 3);
        refused("27: OUTSIDE ahead of CAST", OUTSIDE, "as", 0, 3);
        faulted("27: CAST: a PLAIN one is no TART one", CAST, "as", 0, 1);
        faulted("27: CAST: a PLAIN one is no BITTER one", CAST, "as", 0, 2);
        faulted("27: CAST: a TART one is no BITTER one", CAST, "as", 1, 2);
        refusedEach("30: OUTSIDE", OUTSIDE, 0, beyond(0, 4), "many", 0);
        withoutStreet(() -> {
            refused("25: UNKNOWN: there are no HOUSES", UNKNOWN, "tell", 0);
            refused("26: UNKNOWN: there are no HOUSES", UNKNOWN, "knock", 0);
            refused("27: UNKNOWN: there are no HOUSES", UNKNOWN, "as", 0, 0);
            refusedEach("30: OUTSIDE, without a street", OUTSIDE, 0, beyond(0, 4), "many", 0);
        });
    }

    /** Each call that names FAULTS, taken: fault() is 0 behind it; each that names none, taken: it stays. */
    private static void latestFault() {
        Object[][] taken = {
            {"street", 0, 0, 0, 7}, {"season", 0, 0, 7, 2, 0}, {"sheet", 0, 0, 0}, {"put", 0, 0, 0}, {"cell", 0, 0, 0},
            {"copy", 0, 0, 0, 0, 0}, {"as", 0, 0},
            {"ofHouse", 0, 0}, {"anger", 0, 0}, {"crate", 0}, {"deal", 0, 0}, {"weeks", 1}, {"gift", 0}, {"calm", 0, 9},
            {"wonder", 0}, {"otherwise", 0}, {"halves", 0}, {"reading", 0, 0}, {"back", 0}, {"tempers", 0},
            {"kinds", 0}, {"crates", 0}, {"odds", 0, 0, 0}, {"lose", 0}, {"lose", 3}, {"tell", 0}, {"knock", 0},
            {"trace"}, {"fault"}, {"many", 0}};
        for (Object[] call : taken) {
            String name = (String) call[0];
            int[] args = Arrays.stream(call).skip(1).mapToInt(v -> (Integer) v).toArray();
            String words = Calls.namesFaults(name) ? "29: it came to none" : "29: of the latest call that names one";
            check.sentence(words, () -> {
                LemonDeals x = begun();
                String told = Calls.told(name, args);
                check.holds(told + " is taken", Calls.ask(x, name, args) >= -9 && x.many(0) > 0);
                check.due("fault() behind " + told, x.fault(), Calls.namesFaults(name) ? 0 : INDEX);
            });
        }
        check.sentence("29: 0 ahead of any", () -> {
            LemonDeals x = new LemonDeals();
            check.due("fault() of a new object", x.fault(), 0);
            x.weeks(1);
            x.lose(4);
            x.tell(0);
            check.due("fault() behind calls that name none", x.fault(), 0);
        });
    }
}
