/** Promises 20 to 30: sheets, telling, kinds taken, trace, fault, how many. */
public final class SheetsTest {
    private static final Check check = new Check();
    private static final long LOST = Long.MIN_VALUE;

    public static void main(String[] args) {
        sheet();
        lose();
        putAndCell();
        copy();
        tellAndTrace();
        knock();
        as();
        fault();
        many();
        check.end("SheetsTest");
    }

    private static void sheet() {
        LemonDeals x = new LemonDeals();
        check.withoutFault(x, "sheet(0, 0, 60)", x.sheet(0, 0, 60), 1);
        check.due("the last cell", x.cell(0, 59, 0), 0);
        x.put(0, 0, 7);
        x.put(0, 3, 7);
        check.due("a new row", x.sheet(0, 0, 5), 1);
        check.due("a new row is of 0", x.cell(0, 3, 0), 0);
        check.due("a new row is of 0, the first", x.cell(0, 0, 0), 0);
        check.due("a shorter row", x.cell(0, 5, 0), LOST);
        check.due("another lane", x.sheet(0, 2, 0), 1);
        check.due("it is there", x.lose(0), 1);
        check.withoutFault(x, "sheet(-1, 0, 0)", x.sheet(-1, 3, -1), -1);
        check.withoutFault(x, "sheet(4, 0, 0)", x.sheet(4, 0, 0), -1);
        check.withoutFault(x, "lane -1", x.sheet(0, -1, -1), -2);
        check.withoutFault(x, "lane 3", x.sheet(0, 3, -1), -2);
        check.withoutFault(x, "n 61", x.sheet(0, 0, 61), -2);
        check.faults(x, "n -1", x.sheet(0, 0, -1), 4);
        check.faults(x, "n least", x.sheet(0, 0, Integer.MIN_VALUE), 4);
        check.due("it has nothing still", x.lose(0), 0);
        x.sheet(3, 1, 2);
        x.sheet(3, 1, 61);
        check.due("refused: the row stays", x.cell(3, 1, 1), 0);
    }

    private static void lose() {
        LemonDeals x = new LemonDeals();
        check.due("lose(-1)", x.lose(-1), -1);
        check.due("lose(4)", x.lose(4), -1);
        x.sheet(2, 1, 3);
        x.put(2, 9, 9);
        check.due("lose(2)", x.lose(2), 1);
        check.due("fault() is of put still", x.fault(), 3);
        check.due("lose(2) again", x.lose(2), 0);
        check.faults(x, "put to nothing", x.put(2, 0, 0), 1);
    }

    private static void putAndCell() {
        LemonDeals x = new LemonDeals();
        int[] values = {0, 1, -1, 127, 128, 255, 256, 300, -129, 32767, 32768, 65536, 70001, Integer.MAX_VALUE,
            Integer.MIN_VALUE};
        for (int lane = 0; lane < 3; lane++) {
            x.sheet(lane, lane, values.length);
            for (int i = 0; i < values.length; i++) {
                int v = values[i];
                int shift = new int[] {24, 16, 0}[lane];
                check.withoutFault(x, "put " + v + " in lane " + lane, x.put(lane, i, v), 1);
                check.withoutFault(x, "cell of " + v, x.cell(lane, i, lane), v << shift >> shift);
            }
            check.faults(x, "put, i -1", x.put(lane, -1, 0), 3);
            check.faults(x, "put, i beyond", x.put(lane, values.length, 0), 3);
            lost(x, "cell, i -1", x.cell(lane, -1, lane), 3);
            lost(x, "cell, i beyond", x.cell(lane, values.length, lane), 3);
            lost(x, "cell, other lane", x.cell(lane, -1, (lane + 1) % 3), 2);
        }
        check.faults(x, "put to nothing", x.put(3, -1, 0), 1);
        lost(x, "cell of nothing", x.cell(3, -1, 0), 1);
        check.withoutFault(x, "put(4, ..)", x.put(4, 0, 0), -1);
        check.withoutFault(x, "put(-1, ..)", x.put(-1, 0, 0), -1);
        lost(x, "cell(4, ..)", x.cell(4, 0, 0), 0);
        lost(x, "cell(-1, ..)", x.cell(-1, 0, 0), 0);
        lost(x, "lane 3", x.cell(0, 0, 3), 0);
        lost(x, "lane -1", x.cell(3, 0, -1), 0);
    }

    private static void lost(LemonDeals x, String call, long got, int fault) {
        check.due(call, got, LOST);
        check.due("fault() behind " + call, x.fault(), fault);
    }

    private static void row(LemonDeals x, String when, int sheet, int lane, int... want) {
        for (int i = 0; i < want.length; i++) {
            check.due(when + ": cell " + i, x.cell(sheet, i, lane), want[i]);
        }
    }

    private static void copy() {
        LemonDeals x = new LemonDeals();
        Check.write(x, 0, 1, 1, 2, 3, 4, 5);
        Check.write(x, 1, 1, 9, 9, 9);
        check.withoutFault(x, "copy to another", x.copy(0, 3, 1, 0, 2), 2);
        row(x, "to another", 1, 1, 4, 5, 9);
        check.withoutFault(x, "copy on itself, up", x.copy(0, 0, 0, 1, 4), 4);
        row(x, "up", 0, 1, 1, 1, 2, 3, 4);
        check.withoutFault(x, "copy on itself, down", x.copy(0, 2, 0, 0, 3), 3);
        row(x, "down", 0, 1, 2, 3, 4, 3, 4);
        check.withoutFault(x, "none at the ends", x.copy(0, 5, 1, 3, 0), 0);
        check.withoutFault(x, "copy(-1, ..)", x.copy(-1, 0, 3, 0, 0), -1);
        check.withoutFault(x, "copy(4, ..)", x.copy(4, 0, 0, 0, 0), -1);
        check.withoutFault(x, "copy(.., -1, ..)", x.copy(3, 0, -1, 0, 0), -1);
        check.withoutFault(x, "copy(.., 4, ..)", x.copy(0, 0, 4, 0, 0), -1);
        check.faults(x, "of nothing", x.copy(3, -1, 0, 0, 0), 1);
        check.faults(x, "to nothing", x.copy(0, -1, 3, 0, 0), 1);
        Check.write(x, 2, 2, 7, 7);
        check.faults(x, "unlike lanes", x.copy(0, -1, 2, 0, 0), 2);
        int most = Integer.MAX_VALUE;
        int[][] beyond = {{-1, 0, 1}, {0, -1, 1}, {0, 0, -1}, {4, 0, 2}, {0, 2, 2}, {6, 0, 0}, {0, 4, 0}, {-1, 0, 0},
            {0, -1, 0}, {most, 0, 1}, {0, most, 1}, {0, 0, most}, {3, 0, most}, {Integer.MIN_VALUE, 0, 1}};
        for (int[] at : beyond) {
            check.faults(x, "beyond " + at[0] + " " + at[1] + " " + at[2], x.copy(0, at[0], 1, at[1], at[2]), 3);
        }
        row(x, "behind faults", 1, 1, 4, 5, 9);
    }

    private static void tellAndTrace() {
        LemonDeals x = Check.onStreet("l07;p60;t21;b30");
        check.due("tell(0)", x.tell(0), 6);
        check.due("trace()", x.trace(), 1);
        check.due("tell(1)", x.tell(1), 102);
        check.due("trace()", x.trace(), (1 * 31 + 2) * 31 + 1);
        x = Check.onStreet("l07;p60;t21;b30");
        check.due("tell(2)", x.tell(2), 106);
        check.due("trace()", x.trace(), ((3 * 31 + 2) * 31 + 1) * 31 + 1);
        int before = x.trace();
        check.due("tell(3)", x.tell(3), -1);
        check.due("tell(-1)", x.tell(-1), -1);
        check.due("trace() stays", x.trace(), before);
        int trace = before;
        for (int times = 0; times < 40; times++) {
            x.tell(0);
            trace = 31 * trace + 1;
            check.due("trace() that wraps", x.trace(), trace);
        }
        check.due("tell without a street", new LemonDeals().tell(0), -1);
    }

    private static void knock() {
        LemonDeals x = Check.onStreet("l07;p60;t21;b30");
        check.due("knock(0)", x.knock(0), 0);
        check.due("trace()", x.trace(), 4);
        check.due("knock(1)", x.knock(1), 1);
        check.due("trace()", x.trace(), 4 * 31 + 4);
        check.due("knock(2)", x.knock(2), 30);
        check.due("trace()", x.trace(), (4 * 31 + 4) * 31 + 5);
        check.due("knock(3)", x.knock(3), -1);
        check.due("knock(-1)", x.knock(-1), -1);
        check.due("trace() stays", x.trace(), (4 * 31 + 4) * 31 + 5);
    }

    private static void as() {
        LemonDeals x = Check.onStreet("l07;p60;t21;b30");
        for (int k = 0; k < 3; k++) {
            for (int kind = 0; kind < 3; kind++) {
                String call = "as(" + k + ", " + kind + ")";
                if (kind <= k) {
                    check.withoutFault(x, call, x.as(k, kind), 1);
                } else {
                    check.faults(x, call, x.as(k, kind), 2);
                }
            }
            check.withoutFault(x, "as(" + k + ", 3)", x.as(k, 3), -2);
            check.withoutFault(x, "as(" + k + ", -1)", x.as(k, -1), -2);
        }
        check.withoutFault(x, "as(3, 3)", x.as(3, 3), -1);
        check.withoutFault(x, "as(-1, 0)", x.as(-1, 0), -1);
        check.due("trace() of as", x.trace(), 0);
    }

    private static void fault() {
        LemonDeals x = Check.onStreet("l07;p60;t21;b31");
        check.due("fault() behind a street", x.fault(), 0);
        x.as(0, 2);
        x.ofHouse(9, 9);
        x.anger(9, 9);
        x.crate(100);
        x.deal(0, 100);
        x.weeks(0);
        x.weeks(1);
        x.gift(9);
        x.calm(99, 9);
        x.wonder(9);
        x.otherwise(9);
        x.halves(9);
        x.reading(9, 9);
        x.back(9);
        x.tempers(9);
        x.kinds(9);
        x.crates(9);
        x.odds(9, 9, 9);
        x.lose(9);
        x.tell(9);
        x.knock(9);
        x.trace();
        x.many(9);
        check.due("fault() behind calls that name none", x.fault(), 2);
        check.due("fault() again", x.fault(), 2);
        x.put(9, 0, 0);
        check.due("fault() behind one that was refused", x.fault(), 0);
        behindAFault(x, "street");
        behindAFault(x, "season");
        behindAFault(x, "sheet");
        behindAFault(x, "put");
        behindAFault(x, "cell");
        behindAFault(x, "copy");
        behindAFault(x, "as");
    }

    /** Each call that names faults, behind a fault: as it should be, and refused. */
    private static void behindAFault(LemonDeals x, String name) {
        for (int sheet = 0; sheet <= 4; sheet += 4) {
            x.as(0, 2);
            check.due("a fault ahead of " + name, x.fault(), 2);
            callNamed(x, name, sheet);
            check.due("fault() behind " + name + " of " + sheet, x.fault(), 0);
        }
    }

    private static void callNamed(LemonDeals x, String name, int k) {
        Check.write(x, 0, 0, 1, 2, 3);
        x.as(0, 2);
        switch (name) {
            case "street":
                x.street(k, 0, 0, 3);
                break;
            case "season":
                x.season(k, 0, 0, 0, 0);
                break;
            case "sheet":
                x.sheet(k, 0, 2);
                break;
            case "put":
                x.put(k, 0, 2);
                break;
            case "cell":
                x.cell(k, 0, 0);
                break;
            case "copy":
                x.copy(0, 0, k, 1, 2);
                break;
            default:
                x.as(k, 0);
                break;
        }
    }

    private static void many() {
        LemonDeals x = Check.onStreet("l07;p00;p02;p00");
        x.reading(0, 0);
        x.weeks(1);
        int[] want = {3, 7, 1, 2, 1};
        for (int what = 0; what < 5; what++) {
            check.due("many(" + what + ")", x.many(what), want[what]);
        }
        check.due("many(5)", x.many(5), -2);
        check.due("many(-1)", x.many(-1), -2);
        check.due("many(5) without a street", new LemonDeals().many(5), -2);
    }
}
