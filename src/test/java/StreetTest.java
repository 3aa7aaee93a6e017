/** Promises 1 to 6: a new object, streets by texts, houses, the crate and its deal. */
public final class StreetTest {
    private static final Check check = new Check();

    public static void main(String[] args) {
        newObject();
        textsTaken();
        textsNotTaken();
        streetOfCells();
        streetMakesAnew();
        houses();
        anger();
        crate();
        deal();
        check.end("StreetTest");
    }

    private static void newObject() {
        LemonDeals x = new LemonDeals();
        for (int what = 0; what <= 4; what++) {
            check.due("new: many(" + what + ")", x.many(what), 0);
        }
        check.due("new: fault()", x.fault(), 0);
        check.due("new: trace()", x.trace(), 0);
        for (int k = 0; k < 4; k++) {
            check.due("new: lose(" + k + ")", x.lose(k), 0);
        }
        check.due("new: ofHouse(0, 0)", x.ofHouse(0, 0), -1);
    }

    private static void textsTaken() {
        LemonDeals x = new LemonDeals();
        check.due("one house", Check.take(x, "l07;p60"), 1);
        check.due("CRATE", x.many(1), 7);
        check.due("three houses", Check.take(x, "l98;p60;t21;b39"), 3);
        check.due("CRATE", x.many(1), 98);
        int[][] want = {{0, 6, 0}, {1, 2, 1}, {2, 3, 9}};
        for (int k = 0; k < 3; k++) {
            for (int what = 0; what < 3; what++) {
                check.due("ofHouse(" + k + ", " + what + ")", x.ofHouse(k, what), want[k][what]);
            }
        }
        check.due("eight houses", Check.take(x, "l00" + ";t45".repeat(8)), 8);
        check.due("the last house", x.ofHouse(7, 2), 5);
    }

    private static void textsNotTaken() {
        faultAt("", 0);
        faultAt("L07;p60", 0);
        faultAt("l", 1);
        faultAt("l/0;p60", 1);
        faultAt("l:0;p60", 1);
        faultAt("l07", 3);
        faultAt("l0;;p60", 2);
        faultAt("l07:p60", 3);
        faultAt("l07p60", 3);
        faultAt("l07;", 4);
        faultAt("l07;q60", 4);
        faultAt("l07;P60", 4);
        faultAt("l07;p", 5);
        faultAt("l07;p/0", 5);
        faultAt("l07;p6", 6);
        faultAt("l07;p6:", 6);
        faultAt("l07;p60;", 8);
        faultAt("l07;p60,", 7);
        faultAt("l07;p60;b9", 10);
        faultAt("l07;p60;b9x", 10);
        faultAt("l07" + ";p60".repeat(8) + ";", 35);
        faultAt("l07" + ";p60".repeat(9), 35);
        faultAt("l07" + ";p60".repeat(8) + "x", 35);
        faultAt("l07" + ";p60".repeat(7) + ";p6", 34);
    }

    private static void faultAt(String text, int place) {
        LemonDeals x = Check.onStreet("l42;b71;p36");
        check.due("a text " + text, Check.take(x, text), -100 - place);
        check.due("fault() behind a text that isn't taken", x.fault(), 0);
        check.due("HOUSES behind it", x.many(0), 2);
        check.due("CRATE behind it", x.many(1), 42);
        check.due("kind behind it", x.ofHouse(0, 0), 2);
        check.due("STOCK behind it", x.ofHouse(1, 2), 6);
    }

    private static void streetOfCells() {
        for (int lane = 0; lane < 3; lane++) {
            LemonDeals x = new LemonDeals();
            int other = (lane + 1) % 3;
            check.faults(x, "street of nothing", x.street(0, lane, 0, 0), 1);
            check.faults(x, "street of nothing, n -1", x.street(0, lane, 0, -1), 1);
            Check.write(x, 0, lane, Check.codes("xxl07;p60;t21yy"));
            check.withoutFault(x, "street in the middle", x.street(0, lane, 2, 11), 2);
            check.withoutFault(x, "street, shorter", x.street(0, lane, 2, 7), 1);
            check.withoutFault(x, "street, n 0", x.street(0, lane, 15, 0), -100);
            check.withoutFault(x, "street, sheet -1", x.street(-1, 9, 0, 0), -1);
            check.withoutFault(x, "street, sheet 4", x.street(4, lane, 0, 0), -1);
            check.withoutFault(x, "street, lane -1", x.street(0, -1, 0, -1), -2);
            check.withoutFault(x, "street, lane 3", x.street(1, 3, 0, 0), -2);
            check.faults(x, "street, other lane", x.street(0, other, 0, -1), 2);
            check.faults(x, "street, n -1, i -1", x.street(0, lane, -1, -1), 4);
            check.faults(x, "street, i -1", x.street(0, lane, -1, 3), 3);
            check.faults(x, "street, i -1, n 0", x.street(0, lane, -1, 0), 3);
            check.faults(x, "street, i 16, n 0", x.street(0, lane, 16, 0), 3);
            check.faults(x, "street, one beyond", x.street(0, lane, 2, 14), 3);
            check.faults(x, "street, n huge", x.street(0, lane, 2, Integer.MAX_VALUE), 3);
            check.faults(x, "street, i huge", x.street(0, lane, Integer.MAX_VALUE, 2), 3);
            check.due("HOUSES behind all that", x.many(0), 1);
        }
        LemonDeals x = new LemonDeals();
        Check.write(x, 0, 2, 108, 48 + 256, 48, 59, 112, 48, 48);
        check.due("an int that is a digit as a byte", x.street(0, 2, 0, 7), -101);
        Check.write(x, 0, 0, 108, 48 + 256, 48, 59, 112, 48, 48);
        check.due("a byte is cut", x.street(0, 0, 0, 7), 1);
    }

    private static void streetMakesAnew() {
        LemonDeals x = Check.onStreet("l09;p60;t21");
        x.weeks(5);
        x.reading(0, 3);
        x.tell(0);
        Check.write(x, 1, 1, 5, 6);
        check.due("PIPS ahead", x.ofHouse(0, 3) > 0 ? 1 : 0, 1);
        check.due("street anew", Check.take(x, "l09;p60;t21"), 2);
        check.due("WEEK anew", x.many(2), 0);
        check.due("PIPS anew", x.ofHouse(0, 3) + x.ofHouse(1, 3), 0);
        check.due("READINGS anew", x.many(4), 0);
        check.due("TEMPERS anew", x.tempers(0), 1023);
        check.due("TRACE stays", x.trace(), 1);
        check.due("SHEETS stay", x.cell(1, 1, 1), 6);
    }

    private static void houses() {
        LemonDeals x = Check.onStreet("l07;p60;t21;b30");
        int[] sour = {6, 3, 8};
        int[] dealt = {3, 1, 3};
        for (int k = 0; k < 3; k++) {
            check.due("SOUR of " + k, x.ofHouse(k, 5), sour[k]);
            check.due("DEALT to " + k, x.ofHouse(k, 6), dealt[k]);
        }
        check.due("ofHouse(-1, 0)", x.ofHouse(-1, 0), -1);
        check.due("ofHouse(3, 9)", x.ofHouse(3, 9), -1);
        check.due("ofHouse(0, -1)", x.ofHouse(0, -1), -2);
        check.due("ofHouse(0, 7)", x.ofHouse(0, 7), -2);
        x = Check.onStreet("l40;p90");
        int[] trees = {0, 0, 0, 1, 1, 1, 1, 2};
        for (int week = 0; week < trees.length; week++) {
            x.weeks(1);
            check.due("PIPS in week " + week, x.ofHouse(0, 3), week + 1);
            check.due("TREES in week " + week, x.ofHouse(0, 4), trees[week]);
        }
        check.due("SOUR of a bitter 0", Check.onStreet("l00;b00").ofHouse(0, 5), 2);
        check.due("SOUR of a tart 0", Check.onStreet("l00;t00").ofHouse(0, 5), 1);
        check.due("SOUR of a bitter 9", Check.onStreet("l00;b90").ofHouse(0, 5), 20);
    }

    private static void anger() {
        LemonDeals x = Check.onStreet("l07;p60;b30");
        check.due("anger(1, 9)", x.anger(1, 9), 3);
        check.due("SOUR then", x.ofHouse(1, 5), 20);
        check.due("anger(1, 0)", x.anger(1, 0), 9);
        check.due("TEMPER then", x.ofHouse(1, 1), 0);
        check.due("the other TEMPER", x.ofHouse(0, 1), 6);
        check.due("anger(0, 10)", x.anger(0, 10), -2);
        check.due("anger(0, -1)", x.anger(0, -1), -2);
        check.due("anger(2, 10)", x.anger(2, 10), -1);
        check.due("anger(-1, 0)", x.anger(-1, 0), -1);
        check.due("TEMPER behind refusals", x.ofHouse(0, 1), 6);
        check.due("anger without a street", new LemonDeals().anger(0, 0), -1);
    }

    private static void crate() {
        LemonDeals x = Check.onStreet("l07;p60;b30");
        check.due("crate(99)", x.crate(99), 7);
        check.due("crate(0)", x.crate(0), 99);
        check.due("crate(100)", x.crate(100), -2);
        check.due("crate(-1)", x.crate(-1), -2);
        check.due("CRATE then", x.many(1), 0);
        check.due("crate without a street", new LemonDeals().crate(100), -3);
    }

    private static void deal() {
        LemonDeals x = Check.onStreet("l07;p60;p60;p20");
        int[][] want = {{0, 0, 0, 0}, {1, 1, 0, 0}, {2, 1, 1, 0}, {3, 1, 1, 1}, {10, 4, 4, 2}, {11, 5, 5, 1},
            {99, 43, 42, 14}};
        for (int[] row : want) {
            for (int k = 0; k < 3; k++) {
                check.due("deal(" + k + ", " + row[0] + ")", x.deal(k, row[0]), row[k + 1]);
            }
        }
        check.due("deal(3, 100)", x.deal(3, 100), -1);
        check.due("deal(-1, 0)", x.deal(-1, 0), -1);
        check.due("deal(0, 100)", x.deal(0, 100), -2);
        check.due("deal(0, -1)", x.deal(0, -1), -2);
        check.due("CRATE stays", x.many(1), 7);
        x = Check.onStreet("l50;p00;p05");
        check.due("no SOUR, house 0", x.deal(0, 50), 0);
        check.due("no SOUR, house 1", x.deal(1, 99), 0);
        check.due("SOUR of 1 alone", Check.onStreet("l00;p00;t00").deal(1, 5), 5);
        x = Check.onStreet("l20" + ";b90".repeat(8));
        for (int k = 0; k < 8; k++) {
            check.due("eight alike: " + k, x.deal(k, 20), k < 4 ? 3 : 2);
        }
        x = Check.onStreet("l03;p00;p10;p10");
        check.due("a mild one gets none", x.deal(0, 3), 0);
        check.due("the least of equal remainders", x.deal(1, 3), 2);
        check.due("the other of them", x.deal(2, 3), 1);
    }
}
