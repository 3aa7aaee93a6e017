import java.math.BigInteger;

/** Parts 4 and 5: what is just taken, empty, full, alike or at its end, a sentence of the document by a test. */
public final class BoundsOfRowsTest {
    private static final Check check = new Check();
    private static final int NONE = -9;
    private static final long LOST = Long.MIN_VALUE;

    public static void main(String[] args) {
        readings();
        whatFollows();
        crates();
        odds();
        sheets();
        cells();
        copies();
        tellings();
        check.end("BoundsOfRowsTest");
    }

    // ---- part 4

    private static void readings() {
        check.sentence("14: 8 at most, numbered from 0 on", () -> {
            LemonDeals x = Check.onStreet("l10" + ";p10".repeat(8));
            for (int r = 0; r < 8; r++) {
                check.due("reading " + r, x.reading(7 - r, r == 0 ? 99 : r), r);
                check.due("READINGS", x.many(4), r + 1);
            }
            check.due("a ninth", x.reading(0, 1), -4);
            check.due("READINGS", x.many(4), 8);
        });
        check.sentence("14: numbered by how many there are ahead of it, when some are taken back", () -> {
            LemonDeals x = Check.onStreet("l10;p10");
            for (int r = 0; r < 8; r++) {
                x.reading(0, 10);
            }
            check.due("back(1)", x.back(1), 7);
            check.due("the eighth again", x.reading(0, 10), 7);
            check.due("a ninth", x.reading(0, 10), -4);
            check.due("back(8)", x.back(8), 0);
            check.due("the first again", x.reading(0, 10), 0);
        });
        check.sentence("14: v is 0 .. 99", () -> {
            LemonDeals x = Check.onStreet("l10;p10");
            check.due("0", x.reading(0, 0), 0);
            check.due("CRATES of it", x.crates(2), 0);
            x.back(1);
            check.due("99", x.reading(0, 99), 0);
            check.due("CRATES of it", x.crates(1), 99);
        });
        check.sentence("15: 0 .. as many as there are, the last ones", () -> {
            LemonDeals x = Check.onStreet("l10;p10");
            check.due("back(0) of none", x.back(0), 0);
            check.due("back(1) of none", x.back(1), -2);
            x.reading(0, 5);
            x.reading(0, 6);
            check.due("back(0) of two", x.back(0), 2);
            check.due("back(3) of two", x.back(3), -2);
            check.due("back(1) of two", x.back(1), 1);
            check.due("the first one is left", x.crates(1), 5);
            check.due("back(1) of one", x.back(1), 0);
            check.due("none is left", x.crates(0), 100);
            check.due("without a STREET", new LemonDeals().back(0), 0);
        });
        check.sentence("4: a READING is of how all is when something is asked, not of when it came", () -> {
            LemonDeals x = Check.onStreet("l10;p10;p10");
            x.reading(0, 5);
            check.due("KINDS by ten", x.kinds(0), 1);
            x.crate(11);
            check.due("KINDS by eleven: it gets more", x.kinds(0), 0);
            x.crate(9);
            check.due("KINDS by nine: PLAIN, it is the least", x.kinds(0), 1);
            x.anger(1, 9);
            check.due("KINDS by another TEMPER", x.kinds(0), 0);
            check.due("CRATES by another TEMPER", x.crates(1), 45);
        });
    }

    private static void whatFollows() {
        check.sentence("16, 17, 18: no READINGS: all of them", () -> {
            LemonDeals x = Check.onStreet("l10;p00" + ";b90".repeat(7));
            for (int k = 0; k < 8; k++) {
                check.due("tempers(" + k + ")", x.tempers(k), 1023);
                check.due("kinds(" + k + ")", x.kinds(k), 7);
            }
            check.due("crates(0)", x.crates(0), 100);
            check.due("crates(1)", x.crates(1), 0);
            check.due("crates(2)", x.crates(2), 99);
        });
        check.sentence("16: TEMPERS 0 and 9 are of them", () -> {
            LemonDeals x = Check.onStreet("l05;p00");
            x.reading(0, 0);
            check.due("0 alone", x.tempers(0), 1);
            x.back(1);
            x.reading(0, 5);
            check.due("1 .. 9", x.tempers(0), 1022);
            x = Check.onStreet("l01;t70;p00");
            x.reading(1, 1);
            check.due("9 alone: more than 8", x.tempers(1), 1 << 9);
        });
        check.sentence("17: KINDS 0 and 2 are of them", () -> {
            LemonDeals x = Check.onStreet("l05;p00");
            x.reading(0, 0);
            check.due("PLAIN alone", x.kinds(0), 1);
            x.back(1);
            x.reading(0, 5);
            check.due("TART and BITTER", x.kinds(0), 6);
            x = Check.onStreet("l01;p60;p40");
            x.reading(1, 1);
            check.due("BITTER alone", x.kinds(1), 4);
        });
        check.sentence("4: in place of what it is alone: what it is need not be of them", () -> {
            LemonDeals x = Check.onStreet("l01;p60;p40");
            x.reading(1, 1);
            check.due("TEMPERS of 1", x.tempers(1), 1 << 7 | 1 << 8 | 1 << 9);
            check.due("TEMPERS of 0, that is less", x.tempers(0), 1 << 0 | 1 << 1 | 1 << 2 | 1 << 3);
            check.due("TEMPER stays", x.ofHouse(1, 1), 4);
            check.due("kind stays", x.ofHouse(1, 0), 0);
        });
        check.sentence("16, 17, 18: by none all are so: empty sets", () -> {
            LemonDeals x = Check.onStreet("l10;p10;p10");
            x.reading(0, 3);
            x.reading(0, 4);
            for (int k = 0; k < 2; k++) {
                check.due("tempers(" + k + ")", x.tempers(k), 0);
                check.due("kinds(" + k + ")", x.kinds(k), 0);
            }
            check.due("crates(0)", x.crates(0), 0);
        });
        check.sentence("4: all 8 are so, the first and the last too", () -> {
            LemonDeals x = Check.onStreet("l10;p10;p10");
            for (int r = 0; r < 8; r++) {
                x.reading(r % 2, 5);
            }
            check.due("CRATES", x.crates(0), 1);
            x.back(1);
            x.reading(1, 6);
            check.due("but the last", x.crates(0), 0);
            x.back(8);
            x.reading(0, 6);
            for (int r = 1; r < 8; r++) {
                x.reading(r % 2, 5);
            }
            check.due("but the first", x.crates(0), 0);
        });
    }

    private static void crates() {
        check.sentence("18: one CRATE: the least and the greatest", () -> {
            LemonDeals x = Check.onStreet("l50;p10");
            for (int v = 0; v <= 99; v += 33) {
                x.reading(0, v);
                check.due("how many", x.crates(0), 1);
                check.due("the least", x.crates(1), v);
                check.due("the greatest", x.crates(2), v);
                x.back(1);
            }
        });
        check.sentence("18: NONE (of 1, 2): there are none", () -> {
            LemonDeals x = Check.onStreet("l50;p10;p10");
            x.reading(0, 51);
            check.due("how many", x.crates(0), 0);
            check.due("the least", x.crates(1), NONE);
            check.due("the greatest", x.crates(2), NONE);
        });
        check.sentence("18: all, by a mild HOUSE that gets none", () -> {
            LemonDeals x = Check.onStreet("l50;p00;p10");
            x.reading(0, 0);
            check.due("how many", x.crates(0), 100);
            check.due("the least", x.crates(1), 0);
            check.due("the greatest", x.crates(2), 99);
            x.back(1);
            x.reading(0, 1);
            check.due("none by one", x.crates(0), 0);
        });
        check.sentence("18: the CRATE there is is not of them, and stays", () -> {
            LemonDeals x = Check.onStreet("l50;p10");
            x.reading(0, 7);
            check.due("the least", x.crates(1), 7);
            check.due("CRATE", x.many(1), 50);
        });
        check.sentence("18: with others between them that aren't", () -> {
            LemonDeals x = Check.onStreet("l50;p60;p60;p20");
            x.reading(2, 1);
            check.due("how many: 3, 5 .. 9, 11", x.crates(0), 7);
            check.due("the least", x.crates(1), 3);
            check.due("the greatest", x.crates(2), 11);
        });
    }

    private static void odds() {
        check.sentence("19: as an upper and a lower number above 0 in least terms", () -> {
            LemonDeals x = Check.onStreet("l50;p10");
            for (int v = 0; v <= 99; v++) {
                int by = BigInteger.valueOf(100 - v).gcd(BigInteger.valueOf(100)).intValue();
                check.due("odds(0, " + v + ", 0)", x.odds(0, v, 0), (100 - v) / by);
                check.due("odds(0, " + v + ", 1)", x.odds(0, v, 1), 100 / by);
            }
        });
        check.sentence("19: never, of v 1 .. 99: 0 by 1", () -> {
            LemonDeals x = Check.onStreet("l50;p00;p10");
            for (int v : new int[] {1, 2, 50, 99}) {
                check.due("odds(0, " + v + ", 0)", x.odds(0, v, 0), 0);
                check.due("odds(0, " + v + ", 1)", x.odds(0, v, 1), 1);
            }
        });
        check.sentence("19: always, of v 0: 1 by 1, SOUR of all 0 too", () -> {
            for (String text : new String[] {"l50;p00", "l00;p10", "l99;b90;p00"}) {
                LemonDeals x = Check.onStreet(text);
                check.due("the upper", x.odds(0, 0, 0), 1);
                check.due("the lower", x.odds(0, 0, 1), 1);
            }
        });
        check.sentence("19: if CRATE is any of 0 .. 99: by none of READINGS, by not the one there is", () -> {
            LemonDeals x = Check.onStreet("l00;p10");
            x.reading(0, 0);
            check.due("the upper", x.odds(0, 99, 0), 1);
            check.due("the lower", x.odds(0, 99, 1), 100);
            x.crate(99);
            check.due("the upper", x.odds(0, 1, 0), 99);
            check.due("the lower", x.odds(0, 1, 1), 100);
            check.due("CRATE stays", x.many(1), 99);
        });
    }

    // ---- part 5

    private static void sheets() {
        check.sentence("5: SHEETS 0 .. 3 have nothing at first", () -> {
            LemonDeals x = new LemonDeals();
            for (int k = 0; k < 4; k++) {
                check.faults(x, "put(" + k + ", 0, 0)", x.put(k, 0, 0), 1);
                check.due("lose(" + k + ")", x.lose(k), 0);
            }
        });
        check.sentence("20: rows of 0 and of 60 numbers of each LANE, 0 at first", () -> {
            for (int lane = 0; lane < 3; lane++) {
                LemonDeals x = new LemonDeals();
                for (int k = 0; k < 4; k++) {
                    check.due("sheet(" + k + ", " + lane + ", 60)", x.sheet(k, lane, 60), 1);
                }
                for (int i = 0; i < 60; i++) {
                    check.due("cell " + i, x.cell(3, i, lane), 0);
                    x.put(3, i, i + 1);
                }
                check.due("no cell 60", x.cell(3, 60, lane), LOST);
                check.due("cell 59", x.cell(3, 59, lane), 60);
                check.due("the others' cells", x.cell(2, 59, lane), 0);
                check.due("a row of 0", x.sheet(3, lane, 0), 1);
                check.due("no cell 0", x.cell(3, 0, lane), LOST);
                check.due("fault()", x.fault(), 3);
                check.due("a row anew", x.sheet(3, lane, 60), 1);
                for (int i = 0; i < 60; i++) {
                    check.due("cell " + i + " anew", x.cell(3, i, lane), 0);
                }
            }
        });
        check.sentence("20: a new row in place of one of another LANE", () -> {
            LemonDeals x = new LemonDeals();
            for (int lane : new int[] {2, 0, 1, 2, 1, 0, 2}) {
                check.due("sheet(0, " + lane + ", 2)", x.sheet(0, lane, 2), 1);
                check.due("cell 1", x.cell(0, 1, lane), 0);
                x.put(0, 1, 40000);
                check.due("cut to its LANE", x.cell(0, 1, lane), new int[] {64, -25536, 40000}[lane]);
            }
        });
        check.sentence("21: 1; 0: it had nothing", () -> {
            LemonDeals x = new LemonDeals();
            for (int k = 0; k < 4; k++) {
                check.due("it had nothing", x.lose(k), 0);
                x.sheet(k, 1, k == 0 ? 0 : 60);
            }
            for (int k = 0; k < 4; k++) {
                check.due("it had a row", x.lose(k), 1);
                check.due("it had nothing then", x.lose(k), 0);
            }
            x.sheet(1, 1, 3);
            check.due("a row again, of 0", x.cell(1, 2, 1), 0);
        });
    }

    private static void cells() {
        check.sentence("5: what comes to a cell is cut to its LANE (with its sign)", () -> {
            int[] values = {0, 1, -1, 126, 127, 128, 129, 255, 256, -127, -128, -129, -256, 32766, 32767, 32768, 65535,
                65536, -32767, -32768, -32769, Integer.MAX_VALUE, Integer.MIN_VALUE, Integer.MAX_VALUE - 1};
            LemonDeals x = new LemonDeals();
            for (int lane = 0; lane < 3; lane++) {
                x.sheet(lane, lane, 1);
                for (int v : values) {
                    int cut = lane == 0 ? (byte) v : lane == 1 ? (short) v : v;
                    check.due("put " + v + ", lane " + lane, x.put(lane, 0, v), 1);
                    check.due("cell of " + v + ", lane " + lane, x.cell(lane, 0, lane), cut);
                }
            }
        });
        check.sentence("22: cell 0 and the last one", () -> {
            LemonDeals x = new LemonDeals();
            for (int n = 1; n <= 60; n += n == 1 ? 1 : 58) {
                x.sheet(0, 2, n);
                check.due("the first", x.put(0, 0, 5), 1);
                check.due("the last", x.put(0, n - 1, 6), 1);
                check.due("the last then", x.cell(0, n - 1, 2), 6);
                check.faults(x, "one beyond", x.put(0, n, 7), 3);
            }
        });
    }

    private static void rowIs(LemonDeals x, int sheet, int... want) {
        for (int i = 0; i < want.length; i++) {
            check.due("cell " + i, x.cell(sheet, i, 1), want[i]);
        }
    }

    private static void copies() {
        check.sentence("24: perhaps the same, as they were: up, down, on the spot", () -> {
            LemonDeals x = new LemonDeals();
            Check.write(x, 0, 1, 1, 2, 3, 4, 5);
            check.due("up by one", x.copy(0, 0, 0, 1, 4), 4);
            rowIs(x, 0, 1, 1, 2, 3, 4);
            check.due("down by one", x.copy(0, 1, 0, 0, 4), 4);
            rowIs(x, 0, 1, 2, 3, 4, 4);
            check.due("up by two", x.copy(0, 0, 0, 2, 3), 3);
            rowIs(x, 0, 1, 2, 1, 2, 3);
            check.due("on the spot", x.copy(0, 0, 0, 0, 5), 5);
            rowIs(x, 0, 1, 2, 1, 2, 3);
        });
        check.sentence("24: all 60 cells", () -> {
            LemonDeals x = new LemonDeals();
            x.sheet(0, 1, 60);
            x.sheet(3, 1, 60);
            x.put(0, 0, 7);
            x.put(0, 59, 8);
            check.due("copy", x.copy(0, 0, 3, 0, 60), 60);
            check.due("the first", x.cell(3, 0, 1), 7);
            check.due("the last", x.cell(3, 59, 1), 8);
            check.due("the first stays", x.cell(0, 0, 1), 7);
        });
        check.sentence("24: none of them, at 0 .. how many there are", () -> {
            LemonDeals x = new LemonDeals();
            Check.write(x, 0, 1, 1, 2, 3);
            Check.write(x, 1, 1, 4, 5);
            x.sheet(2, 1, 0);
            for (int i = 0; i <= 3; i++) {
                for (int j = 0; j <= 2; j++) {
                    check.withoutFault(x, "copy none from " + i + " to " + j, x.copy(0, i, 1, j, 0), 0);
                }
            }
            check.withoutFault(x, "of a row of none", x.copy(2, 0, 2, 0, 0), 0);
            check.faults(x, "one of a row of none", x.copy(2, 0, 1, 0, 1), 3);
            check.faults(x, "one to a row of none", x.copy(1, 0, 2, 0, 1), 3);
            rowIs(x, 1, 4, 5);
        });
        check.sentence("24: up to the last cell of the one and of the other", () -> {
            LemonDeals x = new LemonDeals();
            Check.write(x, 0, 1, 1, 2, 3);
            Check.write(x, 1, 1, 4, 5);
            check.withoutFault(x, "the last one to the last", x.copy(0, 2, 1, 1, 1), 1);
            rowIs(x, 1, 4, 3);
            check.faults(x, "two to the last", x.copy(0, 0, 1, 1, 2), 3);
            check.faults(x, "two of the last", x.copy(0, 2, 1, 0, 2), 3);
            rowIs(x, 1, 4, 3);
        });
    }

    private static void tellings() {
        check.sentence("5: TRACE is an int that wraps", () -> {
            LemonDeals x = Check.onStreet("l00;p00;t90;b90");
            int trace = 0;
            boolean hasWrapped = false;
            for (int times = 0; times < 60; times++) {
                int k = times % 3;
                int[] bodies = new int[][] {{1}, {2, 1}, {3, 2, 1, 1}}[k];
                check.due("tell(" + k + ")", x.tell(k), new int[] {0, 109, 118}[k]);
                for (int body : bodies) {
                    hasWrapped |= 31L * trace + body != 31 * trace + body;
                    trace = 31 * trace + body;
                }
                check.due("trace()", x.trace(), trace);
            }
            check.holds("it has wrapped", hasWrapped);
        });
        check.sentence("5: TELLING of TEMPER 0", () -> {
            LemonDeals x = Check.onStreet("l00;p00;t00;b00");
            check.due("PLAIN", x.tell(0), 0);
            check.due("TART", x.tell(1), 100);
            check.due("BITTER", x.tell(2), 100);
        });
        check.sentence("26: the HOUSE's number, 0 and 7 too; BITTER ones 30", () -> {
            LemonDeals x = Check.onStreet("l00;p00;t00;b00;p00;p00;p00;p00;t90");
            int[] want = {0, 1, 30, 3, 4, 5, 6, 7};
            int trace = 0;
            for (int k = 0; k < 8; k++) {
                check.due("knock(" + k + ")", x.knock(k), want[k]);
                trace = 31 * trace + (k == 2 ? 5 : 4);
                check.due("trace()", x.trace(), trace);
            }
        });
        check.sentence("27: each is one of its own kind, and of those it is one of", () -> {
            LemonDeals x = Check.onStreet("l00;p00;t00;b00");
            for (int k = 0; k < 3; k++) {
                for (int kind = 0; kind < 3; kind++) {
                    check.due("as(" + k + ", " + kind + ")", x.as(k, kind), kind <= k ? 1 : -12);
                }
            }
            check.due("no body is begun", x.trace(), 0);
        });
    }
}
