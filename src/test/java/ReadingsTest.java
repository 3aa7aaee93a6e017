/** Promises 14 to 19: readings and what follows of them, odds. */
public final class ReadingsTest {
    private static final Check check = new Check();

    public static void main(String[] args) {
        readings();
        back();
        withoutReadings();
        whatFollows();
        ofEight();
        crateAsItIs();
        odds();
        check.end("ReadingsTest");
    }

    private static void readings() {
        LemonDeals x = Check.onStreet("l10;p60;p60;p20");
        check.due("reading(3, 100)", x.reading(3, 100), -1);
        check.due("reading(-1, 0)", x.reading(-1, 0), -1);
        check.due("reading(0, 100)", x.reading(0, 100), -2);
        check.due("reading(0, -1)", x.reading(0, -1), -2);
        for (int r = 0; r < 8; r++) {
            check.due("reading " + r, x.reading(r % 3, r == 0 ? 99 : 0), r);
            check.due("READINGS", x.many(4), r + 1);
        }
        check.due("a ninth one", x.reading(0, 0), -4);
        check.due("a ninth one, outside", x.reading(0, 100), -2);
        check.due("a ninth one, unknown", x.reading(3, 0), -1);
        check.due("READINGS", x.many(4), 8);
        check.due("without a street", new LemonDeals().reading(0, 0), -1);
    }

    private static void back() {
        LemonDeals x = Check.onStreet("l10;p60;p60;p20");
        x.reading(0, 4);
        x.reading(1, 4);
        x.reading(2, 9);
        check.due("back(-1)", x.back(-1), -2);
        check.due("back(4)", x.back(4), -2);
        check.due("back(0)", x.back(0), 3);
        check.due("no CRATE", x.crates(0), 0);
        check.due("back(1)", x.back(1), 2);
        check.due("CRATES then", x.crates(0), 2);
        check.due("the next reading", x.reading(2, 2), 2);
        check.due("CRATES by it", x.crates(1), 10);
        check.due("back(3)", x.back(3), 0);
        check.due("back(0)", x.back(0), 0);
        check.due("without a street", new LemonDeals().back(0), 0);
        check.due("without a street, 1", new LemonDeals().back(1), -2);
    }

    private static void withoutReadings() {
        LemonDeals x = Check.onStreet("l10;p60;t60;b20");
        for (int k = 0; k < 3; k++) {
            check.due("tempers(" + k + ")", x.tempers(k), 1023);
            check.due("kinds(" + k + ")", x.kinds(k), 7);
        }
        check.due("crates(0)", x.crates(0), 100);
        check.due("crates(1)", x.crates(1), 0);
        check.due("crates(2)", x.crates(2), 99);
        check.due("tempers(3)", x.tempers(3), -1);
        check.due("tempers(-1)", x.tempers(-1), -1);
        check.due("kinds(3)", x.kinds(3), -1);
        check.due("kinds(-1)", x.kinds(-1), -1);
        check.due("crates(3)", x.crates(3), -2);
        check.due("crates(-1)", x.crates(-1), -2);
        LemonDeals y = new LemonDeals();
        check.due("crates(3) without a street", y.crates(3), -3);
        check.due("tempers(0) without a street", y.tempers(0), -1);
        check.due("kinds(0) without a street", y.kinds(0), -1);
    }

    private static void whatFollows() {
        LemonDeals x = Check.onStreet("l10;p60;p60;p20");
        x.reading(2, 2);
        check.due("tempers(2)", x.tempers(2), 1 << 2 | 1 << 3 | 1 << 4);
        check.due("kinds(2)", x.kinds(2), 1 << 0 | 1 << 1);
        check.due("crates(0)", x.crates(0), 7);
        check.due("crates(1)", x.crates(1), 10);
        check.due("crates(2)", x.crates(2), 18);
        x.reading(0, 5);
        check.due("tempers(0), two readings", x.tempers(0), 0);
        check.due("kinds(0), two readings", x.kinds(0), 0);
        check.due("tempers(2), two readings", x.tempers(2), 0);
        check.due("TEMPER stays", x.ofHouse(0, 1), 6);
        check.due("kind stays", x.ofHouse(2, 0), 0);
        check.due("CRATE stays", x.many(1), 10);
        x.reading(0, 99);
        check.due("none: crates(0)", x.crates(0), 0);
        check.due("none: crates(1)", x.crates(1), -9);
        check.due("none: crates(2)", x.crates(2), -9);
    }

    private static void ofEight() {
        LemonDeals x = Check.onStreet("l20" + ";b90".repeat(8));
        for (int k = 0; k < 8; k++) {
            x.reading(k, k < 4 ? 3 : 2);
        }
        check.due("CRATES of eight", x.crates(0), 1);
        check.due("the one", x.crates(1), 20);
        check.due("KINDS of the last", x.kinds(7), 4);
        check.due("TEMPERS of the last", x.tempers(7), 1 << 6 | 1 << 7 | 1 << 8 | 1 << 9);
    }

    private static void crateAsItIs() {
        LemonDeals x = Check.onStreet("l10;p60;p60;p20");
        x.reading(2, 2);
        x.crate(0);
        check.due("by no lemon", x.tempers(2), 0);
        x.crate(11);
        check.due("by eleven", x.tempers(2), 1 << 3);
        x.crate(10);
        x.anger(0, 0);
        check.due("TEMPER as it is", x.tempers(2), 1 << 2);
    }

    private static void odds() {
        LemonDeals x = Check.onStreet("l10;p10;p10;p00");
        int[][] want = {{0, 0, 1, 1}, {0, 1, 99, 100}, {1, 1, 49, 50}, {0, 50, 1, 100}, {1, 50, 0, 1}, {0, 2, 97, 100},
            {0, 13, 3, 4}, {0, 51, 0, 1}, {0, 99, 0, 1}, {2, 0, 1, 1}, {2, 1, 0, 1}};
        for (int[] row : want) {
            String call = "odds(" + row[0] + ", " + row[1] + ", ";
            check.due(call + "0)", x.odds(row[0], row[1], 0), row[2]);
            check.due(call + "1)", x.odds(row[0], row[1], 1), row[3]);
        }
        x.reading(0, 3);
        check.due("readings tell nothing of odds", x.odds(0, 13, 1), 4);
        check.due("unknown", x.odds(3, 0, 0), Long.MIN_VALUE);
        check.due("unknown, -1", x.odds(-1, 0, 0), Long.MIN_VALUE);
        check.due("v 100", x.odds(0, 100, 0), Long.MIN_VALUE);
        check.due("v -1", x.odds(0, -1, 0), Long.MIN_VALUE);
        check.due("which 2", x.odds(0, 0, 2), Long.MIN_VALUE);
        check.due("which -1", x.odds(0, 0, -1), Long.MIN_VALUE);
        check.due("without a street", new LemonDeals().odds(0, 0, 0), Long.MIN_VALUE);
        check.due("CRATE stays", x.many(1), 10);
    }
}
