/** Promises 7 to 9: weeks, gifts, seasons. */
public final class WeeksTest {
    private static final Check check = new Check();

    public static void main(String[] args) {
        weeks();
        treesBear();
        refusedWeeks();
        gifts();
        seasons();
        eightHouses();
        wrongSeasons();
        refusedSeasons();
        refusedPairs();
        check.end("WeeksTest");
    }

    private static void state(LemonDeals x, String when, int[]... want) {
        for (int k = 0; k < want.length; k++) {
            for (int what = 1; what <= want[k].length; what++) {
                check.due(when + ": ofHouse(" + k + ", " + what + ")", x.ofHouse(k, what), want[k][what - 1]);
            }
        }
    }

    private static void weeks() {
        LemonDeals x = Check.onStreet("l02;p40;p00;p90;t02");
        check.due("SOUR 4, 0, 9, 1: house 0 gets", x.ofHouse(0, 6), 1);
        check.due("weeks(1)", x.weeks(1), 3);
        state(x, "week 1", new int[] {3, 0, 1}, new int[] {1, 0, 0}, new int[] {8, 0, 1}, new int[] {0, 1, 1});
        check.due("WEEK", x.many(2), 1);
        check.due("HOUSES without", x.many(3), 3);
    }

    private static void treesBear() {
        LemonDeals x = Check.onStreet("l00;p94;p90");
        check.due("weeks(4)", x.weeks(4), 2);
        state(x, "week 4", new int[] {5, 0, 4, 1}, new int[] {9, 0, 0, 0});
        check.due("weeks(3)", x.weeks(3), 2);
        state(x, "week 7", new int[] {2, 0, 7, 1}, new int[] {9, 0, 0, 0});
        check.due("weeks(2)", x.weeks(2), 1);
        state(x, "week 9", new int[] {0, 1, 9, 2}, new int[] {9, 0, 0, 0});
        check.due("WEEK", x.many(2), 9);
        check.due("weeks(60)", x.weeks(60), 1);
        check.due("WEEK", x.many(2), 69);
        check.due("TEMPER stays 0", x.ofHouse(0, 1), 0);
    }

    private static void refusedWeeks() {
        LemonDeals x = Check.onStreet("l00;p94;p90");
        check.due("weeks(0)", x.weeks(0), -2);
        check.due("weeks(61)", x.weeks(61), -2);
        check.due("weeks(-1)", x.weeks(-1), -2);
        check.due("WEEK stays", x.many(2), 0);
        check.due("weeks(61) without a street", new LemonDeals().weeks(61), -2);
        check.due("weeks(60) without a street", new LemonDeals().weeks(60), -3);
    }

    private static void gifts() {
        LemonDeals x = Check.onStreet("l00;p02;t00;b01");
        check.due("gift(0)", x.gift(0), 1);
        check.due("STOCK of 1", x.ofHouse(1, 2), 1);
        check.due("gift(2), to house 0", x.gift(2), 0);
        check.due("STOCK of 0", x.ofHouse(0, 2), 2);
        check.due("gift(2), it has none", x.gift(2), -3);
        check.due("gift(3)", x.gift(3), -1);
        check.due("gift(-1)", x.gift(-1), -1);
        check.due("gift without a street", new LemonDeals().gift(0), -1);
        check.due("no week goes by", x.many(2), 0);
        x = Check.onStreet("l00;p00;p01;p00");
        check.due("gift(1) of three", x.gift(1), 0);
        check.due("it goes to the next", x.ofHouse(2, 2), 1);
        check.due("it goes nowhere else", x.ofHouse(0, 2), 0);
        x = Check.onStreet("l08" + ";p11".repeat(8));
        check.due("gift(7) of eight", x.gift(7), 0);
        check.due("to house 0", x.ofHouse(0, 2), 2);
        x = Check.onStreet("l00;p03");
        check.due("a gift to oneself", x.gift(0), 3);
    }

    private static void season(LemonDeals x, int[] pairs, int what, int want) {
        Check.write(x, 0, 2, pairs);
        String call = "season of " + java.util.Arrays.toString(pairs) + ", what " + what;
        check.withoutFault(x, call, x.season(0, 2, 0, pairs.length / 2, what), want);
    }

    private static void seasons() {
        LemonDeals x = Check.onStreet("l02;p40;p00;p90;t02");
        int[] none = {};
        season(x, none, 0, 2);
        season(x, none, 1, -9);
        season(x, none, 2, 13);
        season(x, none, 3, 0);
        season(x, none, 4, 0);
        season(x, new int[] {0, 0}, 3, 0);
        int[] one = {1, 0};
        season(x, one, 0, 1);
        season(x, one, 1, -9);
        season(x, one, 2, 12);
        season(x, one, 3, 1);
        season(x, one, 4, 3);
        season(x, one, 10, 3);
        season(x, one, 11, 1);
        season(x, one, 12, 8);
        season(x, one, 13, 0);
        season(x, one, 14, -9);
        season(x, one, 17, -9);
        int[] more = {3, 1, 99, 2, 1, 0, 0, 2, 9, 0};
        season(x, more, 1, -9);
        season(x, more, 3, 10);
        season(x, more, 4, 30);
        season(x, more, 0, 95);
        int[] lean = {0, 2, 3, 0, 99, 2, 2, 0, 0, 2, 1, 0};
        season(x, lean, 3, 3);
        check.due("WEEK stays", x.many(2), 0);
        check.due("CRATE stays", x.many(1), 2);
        check.due("STOCK stays", x.ofHouse(3, 2), 2);
        check.due("TEMPER stays", x.ofHouse(0, 1), 4);
        check.due("PIPS stay", x.ofHouse(2, 3), 0);
        Check.write(x, 1, 0, 1, 0, 5, 5);
        check.due("a wrong pair behind the season", x.season(1, 0, 0, 1, 4), 3);
        Check.write(x, 1, 0, 1, 0, 0, 1);
        check.due("an act that can't be behind it", x.season(1, 0, 0, 1, 1), -9);
        Check.write(x, 1, 0, 77, 1, 0, 1, 0);
        check.due("pairs from 1 on", x.season(1, 0, 1, 2, 4), 6);
        check.due("pairs from 3 on", x.season(1, 0, 3, 1, 4), 3);
    }

    private static void eightHouses() {
        LemonDeals x = Check.onStreet("l08" + ";p11".repeat(8));
        season(x, new int[] {1, 0}, 0, 8);
        season(x, new int[] {1, 0}, 2, 0);
        season(x, new int[] {1, 0}, 4, 8);
        season(x, new int[] {1, 0}, 17, 0);
        season(x, new int[] {7, 1, 0, 1}, 0, 8);
        season(x, new int[] {7, 1, 7, 1}, 1, 1);
        check.due("weeks of eight", x.weeks(2), 8);
        check.due("calm of eight", x.calm(12, 9), 0);
    }

    private static void wrongSeasons() {
        LemonDeals x = Check.onStreet("l02;p40;p00;p90;t02");
        int[] pairs = {3, 1, 3, 1, 3, 1, 1, 1};
        season(x, pairs, 1, 2);
        for (int what : new int[] {0, 2, 3, 4, 10, 13, 14, 17}) {
            season(x, pairs, what, -102);
        }
        season(x, new int[] {0, 1}, 1, 0);
        season(x, new int[] {0, 1}, 0, -100);
        season(x, new int[] {3, 1, 0, 1, 1, 1, 2, 1, 3, 1}, 1, -9);
        season(x, new int[] {99, 2, 9, 0, 1, 1}, 1, -9);
    }

    private static void refusedSeasons() {
        LemonDeals x = new LemonDeals();
        check.withoutFault(x, "sheet 4", x.season(4, 3, 0, 0, 5), -1);
        check.withoutFault(x, "sheet -1", x.season(-1, 0, 0, 0, 0), -1);
        check.withoutFault(x, "lane 3, no street", x.season(0, 3, 0, 0, 0), -2);
        check.withoutFault(x, "no street", x.season(0, 0, 0, 0, 0), -3);
        Check.take(x, "l02;p40");
        check.faults(x, "nothing", x.season(0, 0, 0, 0, 0), 1);
        check.faults(x, "nothing, i -1", x.season(0, 2, -1, 0, 0), 1);
        Check.write(x, 0, 1, new int[42]);
        check.withoutFault(x, "n 20", x.season(0, 1, 2, 20, 0), 0);
        check.withoutFault(x, "n 0 at the end", x.season(0, 1, 42, 0, 0), 0);
        check.withoutFault(x, "lane -1", x.season(0, -1, 0, 0, 0), -2);
        check.withoutFault(x, "n 21", x.season(0, 1, 0, 21, 0), -2);
        check.withoutFault(x, "n -1", x.season(0, 1, 0, -1, 0), -2);
        for (int what : new int[] {-1, 5, 9, 18}) {
            check.withoutFault(x, "what " + what, x.season(0, 1, 0, 0, what), -2);
        }
        check.faults(x, "other lane", x.season(0, 0, -1, 0, 0), 2);
        check.faults(x, "i -1", x.season(0, 1, -1, 1, 0), 3);
        check.faults(x, "i -1, n 0", x.season(0, 1, -1, 0, 0), 3);
        check.faults(x, "i 43, n 0", x.season(0, 1, 43, 0, 0), 3);
        check.faults(x, "half a pair", x.season(0, 1, 41, 1, 0), 3);
        check.faults(x, "one beyond", x.season(0, 1, 3, 20, 0), 3);
        check.faults(x, "i huge", x.season(0, 1, Integer.MAX_VALUE, 20, 0), 3);
    }

    private static void refusedPairs() {
        LemonDeals x = Check.onStreet("l02;p40;p00");
        season(x, new int[] {9, 0, 1, 1}, 1, 1);
        season(x, new int[] {10, 0}, 1, -2);
        season(x, new int[] {-1, 0}, 1, -2);
        season(x, new int[] {0, 3}, 1, -2);
        season(x, new int[] {0, -1}, 1, -2);
        season(x, new int[] {100, 2}, 1, -2);
        season(x, new int[] {-1, 2}, 1, -2);
        season(x, new int[] {99, 2, 0, 2}, 1, -9);
        season(x, new int[] {2, 1}, 1, -1);
        season(x, new int[] {-1, 1}, 1, -1);
        season(x, new int[] {2, 1, 0, 3}, 1, -1);
        season(x, new int[] {0, 3, 2, 1}, 1, -2);
        season(x, new int[] {1, 1, 2, 1}, 1, -1);
        season(x, new int[] {1, 1, 2, 3}, 0, -2);
    }
}
