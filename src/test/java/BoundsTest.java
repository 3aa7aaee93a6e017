import java.util.Arrays;

/** Parts 1 to 3: what is just taken, empty, full, alike or at its end, a sentence of the document by a test. */
public final class BoundsTest {
    private static final Check check = new Check();
    private static final int NONE = -9;
    private static final String EIGHT_ALIKE = ";b90".repeat(8);

    public static void main(String[] args) {
        newObject();
        houses();
        deals();
        weeks();
        gifts();
        seasons();
        seasonsNoFarther();
        calm();
        wonder();
        otherwise();
        halves();
        manyCalls();
        check.end("BoundsTest");
    }

    private static void house(LemonDeals x, int k, int temper, int stock, int pips, int trees) {
        check.due("TEMPER of " + k, x.ofHouse(k, 1), temper);
        check.due("STOCK of " + k, x.ofHouse(k, 2), stock);
        check.due("PIPS of " + k, x.ofHouse(k, 3), pips);
        check.due("TREES of " + k, x.ofHouse(k, 4), trees);
    }

    // ---- promise 1, part 1

    private static void newObject() {
        check.sentence("1: no STREET, SHEETS have nothing", () -> {
            LemonDeals x = new LemonDeals();
            check.same("a new object", Calls.portrait(x),
                "0 0 0 0 0 | -3 -3 -3 | trace 0 | nothing | nothing | nothing | nothing");
        });
        check.sentence("1: the objects are their own", () -> {
            LemonDeals x = Check.onStreet("l09;p60");
            x.tell(0);
            LemonDeals other = new LemonDeals();
            check.due("HOUSES of another", other.many(0), 0);
            check.due("TRACE of another", other.trace(), 0);
            check.due("SHEET of another", other.lose(3), 0);
        });
        check.sentence("30: 0 all without a STREET", () -> {
            LemonDeals x = new LemonDeals();
            for (int what = 0; what <= 4; what++) {
                check.due("many(" + what + ")", x.many(what), 0);
            }
        });
    }

    private static void houses() {
        check.sentence("1: SOUR of TEMPER 0 and of TEMPER 9", () -> {
            LemonDeals x = Check.onStreet("l00;p00;p90;t00;t90;b00;b90");
            int[] sour = {0, 9, 1, 10, 2, 20};
            for (int k = 0; k < sour.length; k++) {
                check.due("SOUR of " + k, x.ofHouse(k, 5), sour[k]);
                check.due("kind of " + k, x.ofHouse(k, 0), k / 2);
            }
        });
        check.sentence("4: TEMPER becomes v, 0 .. 9", () -> {
            LemonDeals x = Check.onStreet("l10;p30" + EIGHT_ALIKE.substring(4));
            for (int v = 0; v <= 9; v++) {
                check.due("what it was", x.anger(7, v), v == 0 ? 9 : v - 1);
                check.due("TEMPER", x.ofHouse(7, 1), v);
                check.due("SOUR", x.ofHouse(7, 5), 2 * v + 2);
            }
            check.due("the same again", x.anger(7, 9), 9);
            check.due("TEMPER of the others", x.ofHouse(0, 1), 3);
        });
        check.sentence("5: CRATE becomes v, 0 .. 99", () -> {
            LemonDeals x = Check.onStreet("l50;p30");
            check.due("crate(0)", x.crate(0), 50);
            for (int v = 1; v <= 99; v++) {
                check.due("what it was", x.crate(v), v - 1);
                check.due("CRATE", x.many(1), v);
            }
            check.due("the same again", x.crate(99), 99);
        });
    }

    private static void deals() {
        check.sentence("1: DEAL of no lemon, of 99", () -> {
            LemonDeals x = Check.onStreet("l10;p60;p60;p20");
            int[] all = {43, 42, 14};
            for (int k = 0; k < 3; k++) {
                check.due("deal(" + k + ", 0)", x.deal(k, 0), 0);
                check.due("deal(" + k + ", 99)", x.deal(k, 99), all[k]);
            }
            check.due("alone, 99", Check.onStreet("l00;t00").deal(0, 99), 99);
        });
        check.sentence("1: nothing is left over: each gets the quotient", () -> {
            LemonDeals x = Check.onStreet("l14;p60;p60;p20");
            for (int k = 0; k < 3; k++) {
                check.due("deal(" + k + ", 14)", x.deal(k, 14), x.ofHouse(k, 5));
                check.due("DEALT now", x.ofHouse(k, 6), x.ofHouse(k, 5));
            }
        });
        check.sentence("1: one each to the greatest remainders", () -> {
            LemonDeals x = Check.onStreet("l00;p20;p30;p20;p30");
            int[][] want = {{0, 0, 0, 0}, {0, 1, 0, 0}, {0, 1, 0, 1}, {1, 1, 0, 1}, {1, 1, 1, 1}};
            for (int crate = 0; crate < want.length; crate++) {
                for (int k = 0; k < 4; k++) {
                    check.due("deal(" + k + ", " + crate + ")", x.deal(k, crate), want[crate][k]);
                }
            }
        });
        check.sentence("1: of several to the least ones", () -> {
            for (int crate = 0; crate <= 99; crate++) {
                LemonDeals x = Check.onStreet("l00" + EIGHT_ALIKE);
                for (int k = 0; k < 8; k++) {
                    check.due("deal(" + k + ", " + crate + ")", x.deal(k, crate), crate / 8 + (k < crate % 8 ? 1 : 0));
                }
            }
        });
        check.sentence("1: none is dealt, if SOUR of all together is 0", () -> {
            LemonDeals x = Check.onStreet("l99;p00;p05;p09");
            for (int k = 0; k < 3; k++) {
                check.due("deal(" + k + ", 99)", x.deal(k, 99), 0);
                check.due("DEALT now", x.ofHouse(k, 6), 0);
            }
            x.weeks(1);
            house(x, 0, 1, 0, 0, 0);
            house(x, 1, 0, 4, 1, 0);
            house(x, 2, 0, 8, 1, 0);
        });
        check.sentence("1: SOUR of 1 among all: it gets all", () -> {
            LemonDeals x = Check.onStreet("l99;p00;p00;p10;p00");
            check.due("its own", x.deal(2, 99), 99);
            check.due("a mild one's", x.deal(0, 99) + x.deal(1, 99) + x.deal(3, 99), 0);
        });
    }

    // ---- part 2

    private static void weeks() {
        check.sentence("2: a WEEK: dealt and sucked at once, STOCK is 0 then", () -> {
            LemonDeals x = Check.onStreet("l01;p90");
            check.due("weeks(1)", x.weeks(1), 1);
            house(x, 0, 8, 0, 1, 0);
        });
        check.sentence("2: the last lemon is sucked", () -> {
            LemonDeals x = Check.onStreet("l00;p51");
            check.due("weeks(1)", x.weeks(1), 1);
            house(x, 0, 4, 0, 1, 0);
            check.due("weeks(1), without", x.weeks(1), 1);
            house(x, 0, 5, 0, 1, 0);
        });
        check.sentence("2: TEMPER 1 less, 0 at least", () -> {
            LemonDeals x = Check.onStreet("l00;p13;p03");
            x.weeks(1);
            house(x, 0, 0, 2, 1, 0);
            house(x, 1, 0, 2, 1, 0);
            x.weeks(1);
            house(x, 0, 0, 1, 2, 0);
        });
        check.sentence("2: TEMPER 1 more, 9 at most", () -> {
            LemonDeals x = Check.onStreet("l00;p80;t90;b00");
            x.weeks(1);
            house(x, 0, 9, 0, 0, 0);
            house(x, 1, 9, 0, 0, 0);
            house(x, 2, 1, 0, 0, 0);
            x.weeks(60);
            house(x, 0, 9, 0, 0, 0);
            house(x, 2, 9, 0, 0, 0);
        });
        check.sentence("2: 1 TREE for each 4 PIPS, as they are ahead of the WEEK", () -> {
            LemonDeals x = Check.onStreet("l00;p09");
            int[] stock = {8, 7, 6, 5, 5, 5, 5, 5, 6, 7, 8, 9, 11};
            for (int week = 1; week <= stock.length; week++) {
                x.weeks(1);
                house(x, 0, 0, stock[week - 1], week, week / 4);
            }
        });
        check.sentence("2: by SOUR as it is ahead of it", () -> {
            LemonDeals x = Check.onStreet("l01;p10;p12");
            x.weeks(1);
            house(x, 0, 0, 0, 1, 0);
            house(x, 1, 0, 1, 1, 0);
            x.weeks(1);
            house(x, 0, 1, 0, 1, 0);
            house(x, 1, 0, 0, 2, 0);
        });
        check.sentence("7: n WEEKS, 1 and 60", () -> {
            LemonDeals x = Check.onStreet("l00;p09;p00");
            check.due("weeks(1)", x.weeks(1), 1);
            check.due("WEEK", x.many(2), 1);
            check.due("weeks(60)", x.weeks(60), 1);
            check.due("WEEK", x.many(2), 61);
            check.due("PIPS", x.ofHouse(0, 3), 61);
        });
        check.sentence("7, 30: none is without STOCK, some are, all are", () -> {
            int[][] want = {{99, 0}, {16, 0}, {15, 1}, {9, 7}, {8, 8}, {0, 8}};
            for (int[] row : want) {
                LemonDeals x = Check.onStreet("l00" + EIGHT_ALIKE);
                check.due("many(3) ahead", x.many(3), 8);
                x.crate(row[0]);
                check.due("weeks(1) by " + row[0], x.weeks(1), row[1]);
                check.due("many(3) by " + row[0], x.many(3), row[1]);
            }
            check.due("many(3) of one with STOCK", Check.onStreet("l00;p01").many(3), 0);
        });
    }

    private static void gifts() {
        check.sentence("2: a GIFT goes to the next one, from the last one to HOUSE 0", () -> {
            LemonDeals x = Check.onStreet("l00" + ";p01".repeat(8));
            for (int k = 0; k < 7; k++) {
                check.due("gift(" + k + ")", x.gift(k), k == 0 ? 0 : 1);
                check.due("STOCK of the next", x.ofHouse(k + 1, 2), 2);
            }
            check.due("gift(7)", x.gift(7), 1);
            check.due("STOCK of HOUSE 0", x.ofHouse(0, 2), 1);
            check.due("the last lemon", x.gift(7), 0);
            check.due("STOCK of HOUSE 0", x.ofHouse(0, 2), 2);
            check.due("it has none", x.gift(7), -3);
            check.due("STOCK of HOUSE 0", x.ofHouse(0, 2), 2);
        });
        check.sentence("2: of two HOUSES, and of one", () -> {
            LemonDeals x = Check.onStreet("l00;p01;p00");
            check.due("gift(0)", x.gift(0), 0);
            check.due("gift(1)", x.gift(1), 0);
            check.due("it is back", x.ofHouse(0, 2), 1);
            x = Check.onStreet("l00;p01");
            check.due("to itself", x.gift(0), 1);
            check.due("to itself again", x.gift(0), 1);
            check.due("it has none", Check.onStreet("l00;p00").gift(0), -3);
        });
        check.sentence("8: STOCK may be more than 9", () -> {
            LemonDeals x = Check.onStreet("l00;p09;p09");
            x.gift(0);
            check.due("STOCK", x.ofHouse(1, 2), 10);
            for (int more = 11; more <= 18; more++) {
                x.gift(0);
                check.due("STOCK", x.ofHouse(1, 2), more);
            }
            check.due("the ninth was the last", x.gift(0), -3);
        });
    }

    private static int season(LemonDeals x, int what, int... cells) {
        Check.write(x, 2, 2, cells);
        return x.season(2, 2, 0, cells.length / 2, what);
    }

    private static void seasons() {
        check.sentence("9: a SEASON of no pairs: how all is now", () -> {
            LemonDeals x = Check.onStreet("l05;p43;p20");
            x.weeks(1);
            int[] want = {6, NONE, 4, 0, 2};
            for (int what = 0; what < 5; what++) {
                check.due("what " + what, season(x, what), want[what]);
            }
            check.due("TEMPER of 0", season(x, 10), 3);
            check.due("TEMPER of 1", season(x, 11), 1);
        });
        check.sentence("9: 0 WEEKS, 9 WEEKS", () -> {
            LemonDeals x = Check.onStreet("l00;p99;p00");
            check.due("0 WEEKS: PIPS", season(x, 4, 0, 0), 0);
            check.due("0 WEEKS: TEMPER", season(x, 2, 0, 0), 9);
            check.due("0 WEEKS: without", season(x, 3, 0, 0), 0);
            check.due("9 WEEKS: PIPS", season(x, 4, 9, 0), 9);
            check.due("9 WEEKS: TEMPER", season(x, 2, 9, 0), 9);
            check.due("9 WEEKS: without", season(x, 3, 9, 0), 9);
        });
        check.sentence("9: CRATE becomes 0, 99", () -> {
            LemonDeals x = Check.onStreet("l05;b90");
            check.due("99", season(x, 0, 99, 2, 1, 0), 98);
            check.due("0", season(x, 0, 0, 2, 1, 0), 0);
            check.due("the later one", season(x, 0, 99, 2, 7, 2, 1, 0), 6);
            check.due("behind all WEEKS", season(x, 0, 1, 0, 99, 2), 4);
        });
        check.sentence("9: a GIFT of the first HOUSE, of the last, to oneself", () -> {
            LemonDeals x = Check.onStreet("l00;p01;p00;p50");
            check.due("of the first", season(x, 3, 0, 1, 1, 1, 2, 1), 0);
            check.due("it comes round: TEMPER of 0", season(x, 10, 0, 1, 1, 1, 2, 1, 1, 0), 0);
            check.due("it has gone on: TEMPER of 2", season(x, 12, 0, 1, 1, 1, 1, 0), 4);
            check.due("not from the last: FIRST WRONG", season(x, 1, 2, 1), 0);
            check.due("alone", season(Check.onStreet("l00;p01"), 0, 0, 1, 0, 1), 1);
        });
        check.sentence("9: 20 pairs", () -> {
            int[] cells = new int[40];
            for (int p = 0; p < 20; p++) {
                cells[2 * p] = 9;
            }
            LemonDeals x = Check.onStreet("l05;b90");
            check.due("180 WEEKS: PIPS", season(x, 4, cells), 180);
            Check.write(x, 0, 0, Arrays.copyOf(cells, 60));
            check.due("20 pairs up to the last cell", x.season(0, 0, 20, 20, 4), 90);
            check.due("no pairs behind the last cell", x.season(0, 0, 60, 0, 4), 0);
        });
        check.sentence("9: FIRST WRONG: the first pair, the last of 20, NONE", () -> {
            LemonDeals x = Check.onStreet("l00;p09;p09;p01");
            int[] cells = new int[40];
            for (int p = 0; p < 20; p++) {
                cells[2 * p] = p < 9 ? 0 : 1;
                cells[2 * p + 1] = 1;
            }
            check.due("20 GIFTS", season(x, 1, cells), NONE);
            check.due("what is left: STOCK", season(x, 0, cells), 19);
            cells[38] = 0;
            check.due("the last of 20", season(x, 1, cells), 19);
            check.due("the last of 20: -100 less it", season(x, 0, cells), -119);
            check.due("the last of 20: TEMPER of none", season(x, 17, cells), -119);
            cells[0] = 2;
            cells[2] = 2;
            check.due("the second", season(x, 1, cells), 1);
            check.due("the first", season(Check.onStreet("l00;p00"), 1, 0, 1), 0);
            check.due("the first: -100 less it", season(Check.onStreet("l00;p00"), 0, 0, 1), -100);
        });
    }

    private static void seasonsNoFarther() {
        check.sentence("9: TEMPER of HOUSE k then; NONE: there is no such one", () -> {
            LemonDeals x = Check.onStreet("l00" + ";p00;p10;p20;p30;p40;p50;p60;p70");
            for (int k = 0; k < 8; k++) {
                check.due("what " + (10 + k), season(x, 10 + k), k);
                check.due("a WEEK on", season(x, 10 + k, 1, 0), k + 1);
            }
            x = Check.onStreet("l00;p30");
            check.due("HOUSE 0", season(x, 10), 3);
            for (int k = 1; k < 8; k++) {
                check.due("no HOUSE " + k, season(x, 10 + k), NONE);
            }
        });
        check.sentence("9: -100 less the FIRST WRONG ahead of NONE", () -> {
            LemonDeals x = Check.onStreet("l00;p30");
            check.due("no HOUSE 1", season(x, 11, 0, 1), -100);
            check.due("no HOUSE 7, a WEEK ahead", season(x, 17, 1, 0, 0, 1), -101);
        });
        check.sentence("9: behind how many WEEKS somebody is without STOCK", () -> {
            LemonDeals x = Check.onStreet("l00;p03;p09");
            check.due("2 WEEKS: none", season(x, 3, 2, 0), 0);
            check.due("3 WEEKS: one", season(x, 3, 3, 0), 1);
            check.due("told apart", season(x, 3, 1, 0, 1, 0, 1, 0, 1, 0), 2);
            check.due("a GIFT is no WEEK", season(x, 3, 2, 0, 0, 1), 0);
            check.due("two without are one WEEK", season(Check.onStreet("l00;p00;p00"), 3, 1, 0), 1);
        });
        check.sentence("2: nothing is changed", () -> {
            LemonDeals x = Check.onStreet("l05;p43;t21;b32");
            x.weeks(2);
            x.reading(0, 2);
            Check.write(x, 2, 2, 9, 0, 99, 2, 9, 0, 0, 1, 1, 1, 9, 0);
            String ahead = Calls.portrait(x);
            for (int what : new int[] {0, 1, 2, 3, 4, 10, 11, 12, 17}) {
                x.season(2, 2, 0, 6, what);
            }
            check.same("all behind SEASONS", Calls.portrait(x), ahead);
            check.due("the same again", x.season(2, 2, 0, 6, 3), x.season(2, 2, 0, 6, 3));
            Check.write(x, 2, 2, 9, 0, 0, 2, 9, 0, 9, 0, 9, 0, 0, 1, 0, 1, 0, 1, 0, 1, 0, 1);
            ahead = Calls.portrait(x);
            x.season(2, 2, 0, 11, 0);
            check.same("all behind SEASONS that can't be", Calls.portrait(x), ahead);
        });
    }

    // ---- part 3

    private static void calm() {
        check.sentence("10: no WEEKS: how all is now", () -> {
            LemonDeals x = Check.onStreet("l50;p00;p60;p30");
            for (int v = 0; v <= 9; v++) {
                check.due("calm(0, " + v + ")", x.calm(0, v), v < 6 ? NONE : 0);
            }
            check.due("all mild", Check.onStreet("l50;p00;p00").calm(0, 0), 0);
        });
        check.sentence("10: no TEMPER is more than 9, ever", () -> {
            LemonDeals x = Check.onStreet("l50" + EIGHT_ALIKE);
            for (int n = 0; n <= 12; n++) {
                check.due("calm(" + n + ", 9)", x.calm(n, 9), 0);
            }
        });
        check.sentence("10: 12 WEEKS, no TEMPER more than 0", () -> {
            LemonDeals x = Check.onStreet("l50;t90");
            check.due("calm(12, 0)", x.calm(12, 0), 1);
            check.due("calm(9, 0)", x.calm(9, 0), 1);
            check.due("calm(8, 0)", x.calm(8, 0), NONE);
            check.due("calm(8, 1)", x.calm(8, 1), 1);
        });
        check.sentence("10: the least CRATE is 99; NONE though 100 would do", () -> {
            check.due("99", Check.onStreet("l00;b42;p41;p10;p11;t43;p12;b10;t37").calm(4, 0), 99);
            check.due("100", Check.onStreet("l00;b45;b38;p11;p10;t44;p12;b35;b36").calm(4, 0), NONE);
        });
        check.sentence("10: the least, though by a greater one not all are calm", () -> {
            LemonDeals x = Check.onStreet("l50;b40;b20;b00;t10;t00;p00;t02");
            check.due("calm(6, 0)", x.calm(6, 0), 7);
            x.crate(19);
            check.holds("not by 19", season(x, 2, 6, 0) > 0);
            x.crate(6);
            check.holds("not by 6", season(x, 2, 6, 0) > 0);
            x.crate(7);
            check.due("by 7", season(x, 2, 6, 0), 0);
        });
        check.sentence("10: all else as it is now", () -> {
            LemonDeals x = Check.onStreet("l00;p09");
            x.weeks(12);
            check.due("TREES bear", x.calm(12, 0), 0);
            String ahead = Calls.portrait(x);
            x.calm(12, 0);
            x.calm(0, 9);
            check.same("nothing is changed", Calls.portrait(x), ahead);
        });
    }

    private static void wonder() {
        check.sentence("11: no less than the CRATE there is", () -> {
            LemonDeals x = Check.onStreet("l03;p60;p60;p20");
            int[][] from = {{0, 3}, {3, 3}, {4, 10}, {10, 10}, {11, 17}, {17, 17}, {18, 24}};
            for (int[] row : from) {
                x.crate(row[0]);
                check.due("wonder(0) from " + row[0], x.wonder(0), row[1]);
                check.due("wonder(1) from " + row[0], x.wonder(1), 2);
                check.due("fewer", x.deal(2, row[1]), x.deal(2, row[1] + 1) + 1);
            }
        });
        check.sentence("11: up to 98", () -> {
            LemonDeals x = Check.onStreet("l98;b20;b20;p06;p20;p10");
            check.due("wonder(0) of 98", x.wonder(0), 98);
            check.due("wonder(1) of 98", x.wonder(1), 4);
            x.crate(99);
            check.due("wonder(0) of 99", x.wonder(0), NONE);
            check.due("wonder(1) of 99", x.wonder(1), NONE);
            x = Check.onStreet("l99;t01;b10;b20;b20;b07;p00");
            check.due("99, though by 100 one gets fewer", x.wonder(0), NONE);
            check.due("99, though by 100 one gets fewer", x.wonder(1), NONE);
        });
        check.sentence("11: a HOUSE: the first, the last of eight", () -> {
            LemonDeals x = Check.onStreet("l00;p19;t20;b03;t20;p06");
            check.due("wonder(0)", x.wonder(0), 4);
            check.due("wonder(1)", x.wonder(1), 0);
            check.due("fewer", x.deal(0, 4) - x.deal(0, 5), 1);
            x = Check.onStreet("l03;p00;p00;p00;p00;p00;p60;p60;p20");
            check.due("wonder(0)", x.wonder(0), 3);
            check.due("wonder(1)", x.wonder(1), 7);
        });
        check.sentence("11: the least such HOUSE", () -> {
            LemonDeals x = Check.onStreet("l10;t90;p63;p90;t50;t10;t62;t00;t11");
            check.due("wonder(0)", x.wonder(0), 10);
            check.due("4 gets fewer", x.deal(4, 10) - x.deal(4, 11), 1);
            check.due("7 gets fewer", x.deal(7, 10) - x.deal(7, 11), 1);
            check.due("wonder(1)", x.wonder(1), 4);
        });
        check.sentence("11: NONE: there is none", () -> {
            for (String text : new String[] {"l00;p50", "l00;p00;p00", "l00;p30;p60", "l00" + EIGHT_ALIKE}) {
                check.due("wonder(0) of " + text, Check.onStreet(text).wonder(0), NONE);
                check.due("wonder(1) of " + text, Check.onStreet(text).wonder(1), NONE);
            }
        });
    }

    private static void otherwise() {
        check.sentence("12: of several to the least", () -> {
            for (int crate = 0; crate <= 99; crate++) {
                LemonDeals x = Check.onStreet("l00" + EIGHT_ALIKE);
                x.crate(crate);
                for (int k = 0; k < 8; k++) {
                    check.due("otherwise(" + k + ") of " + crate, x.otherwise(k), crate / 8 + (k < crate % 8 ? 1 : 0));
                }
            }
        });
        check.sentence("12: as a share, that isn't cut", () -> {
            LemonDeals x = Check.onStreet("l03;p30;p20;p20");
            check.due("3 by 1, 2 by 1, 2 by 1", x.otherwise(0) * 100 + x.otherwise(1) * 10 + x.otherwise(2), 111);
            x.crate(4);
            check.due("3 by 2 ahead of 2 by 2", x.otherwise(0), 2);
            x = Check.onStreet("l02;p50;p30");
            check.due("3 by 1 ahead of 5 by 2", x.otherwise(1), 1);
            x = Check.onStreet("l03;p50;p90");
            check.due("5 by 1 ahead of 9 by 2", x.otherwise(0), 1);
            check.due("9 by 2", x.otherwise(1), 2);
        });
        check.sentence("12: none to one whose SOUR is 0", () -> {
            LemonDeals x = Check.onStreet("l99;p00;p10;p00");
            check.due("otherwise(0)", x.otherwise(0), 0);
            check.due("otherwise(1)", x.otherwise(1), 99);
            check.due("otherwise(2)", x.otherwise(2), 0);
            x = Check.onStreet("l99;p00;p00");
            check.due("all 0", x.otherwise(0) + x.otherwise(1), 0);
        });
        check.sentence("12: CRATE 0, CRATE 99", () -> {
            LemonDeals x = Check.onStreet("l00;b90;p10");
            check.due("none", x.otherwise(0) + x.otherwise(1), 0);
            x.crate(99);
            check.due("20 of each 21, the next to the sourer", x.otherwise(0), 95);
            check.due("the rest", x.otherwise(1), 4);
        });
    }

    private static void halves() {
        check.sentence("13: one HOUSE: the other set is empty", () -> halves("l00;p60", 1, 6));
        check.sentence("13: SOUR of all is 0: of several the least", () -> {
            halves("l00;p00", 1, 0);
            halves("l00" + ";p00".repeat(8), 1, 0);
        });
        check.sentence("13: HOUSE 0 in the first, though it is of no weight", () -> {
            halves("l00;p00;p50", 1, 5);
            halves("l00;p00;p50;p50", 3, 0);
            halves("l00;p00;p50;p30;p20", 3, 0);
        });
        check.sentence("13: of several the least", () -> {
            halves("l00;p20;p20;p20", 1, 2);
            halves("l00;p20;p10;p10;p40", 7, 0);
            halves("l00;p20;p10;p10;p20", 3, 0);
            halves("l00" + EIGHT_ALIKE, 15, 0);
            halves("l00" + ";p10".repeat(7), 7, 1);
        });
        check.sentence("13: the first one is the greater, or the less", () -> {
            halves("l00;b90;p10;p10", 1, 18);
            halves("l00;p10;b90;p10", 5, 18);
            halves("l00;p10;p10;p10;p10;p10;p10;p10;b90", 127, 13);
            halves("l00;p10;p10;p40;p20", 11, 0);
        });
    }

    private static void halves(String text, int set, int apart) {
        LemonDeals x = Check.onStreet(text);
        check.due("halves(0) of " + text, x.halves(0), set);
        check.due("halves(1) of " + text, x.halves(1), apart);
    }

    // ---- as many calls as there may be

    private static void manyCalls() {
        check.sentence("an object is used for at most 512 calls: STOCK of one", () -> {
            LemonDeals x = Check.onStreet("l99;b99");
            long stock = 9;
            for (int week = 0; week < 490 * 60; week++) {
                stock += 99 + week / 4 - 1;
            }
            for (int times = 0; times < 490; times++) {
                check.due("weeks(60)", x.weeks(60), 0);
            }
            check.due("WEEK", x.many(2), 29400);
            check.due("STOCK", x.ofHouse(0, 2), stock);
            check.due("PIPS", x.ofHouse(0, 3), 29400);
            check.due("TREES", x.ofHouse(0, 4), 7350);
        });
        check.sentence("an object is used for at most 512 calls: STOCK of all together", () -> {
            LemonDeals x = Check.onStreet("l99" + EIGHT_ALIKE);
            long stock = 0;
            for (int week = 0; week < 420 * 60; week++) {
                stock += 99 + 8 * (week / 4) - 8;
            }
            for (int times = 0; times < 420; times++) {
                x.weeks(60);
            }
            check.due("STOCK", season(x, 0), stock);
            check.due("PIPS", season(x, 4), 8 * 25200);
        });
    }
}
