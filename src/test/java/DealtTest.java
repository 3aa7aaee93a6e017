/** Promises 10 to 13: calm, wonder, otherwise, halves. */
public final class DealtTest {
    private static final Check check = new Check();

    public static void main(String[] args) {
        calm();
        wonder();
        otherwise();
        halves();
        check.end("DealtTest");
    }

    private static void calm() {
        LemonDeals x = Check.onStreet("l50;p60;p30");
        check.due("calm(0, 6)", x.calm(0, 6), 0);
        check.due("calm(0, 5)", x.calm(0, 5), -9);
        check.due("calm(1, 5)", x.calm(1, 5), 1);
        check.due("calm(1, 3)", x.calm(1, 3), -9);
        check.due("calm(1, 9)", x.calm(1, 9), 0);
        check.due("calm(2, 4)", x.calm(2, 4), 2);
        check.due("calm(12, 0)", x.calm(12, 0), 1);
        check.due("CRATE stays", x.many(1), 50);
        check.due("WEEK stays", x.many(2), 0);
        check.due("TEMPER stays", x.ofHouse(0, 1), 6);
        check.due("calm(-1, 0)", x.calm(-1, 0), -2);
        check.due("calm(13, 0)", x.calm(13, 0), -2);
        check.due("calm(0, -1)", x.calm(0, -1), -2);
        check.due("calm(0, 10)", x.calm(0, 10), -2);
        check.due("calm(13, 10) without a street", new LemonDeals().calm(13, 10), -3);
        check.due("a mild house stays out", Check.onStreet("l50;p00;p00").calm(1, 0), -9);
        check.due("by STOCK alone", Check.onStreet("l50;p99").calm(9, 0), 0);
        check.due("by far more", Check.onStreet("l01;p10;b90;b90;b90;b90;b90").calm(1, 0), -9);
        check.due("each its own", Check.onStreet("l01;p10;b90;b90;b90;b90;b90").calm(1, 8), 5);
        check.due("by a large crate", Check.onStreet("l00;p10;p10;b30;b42;t40;p10;p12;b05").calm(4, 0), 48);
        check.due("the mild one too", Check.onStreet("l01;p70;b90;b90;b90;b90;b90").calm(1, 7), -9);
    }

    private static void wonder() {
        LemonDeals x = Check.onStreet("l10;p60;p60;p20");
        check.due("wonder(0)", x.wonder(0), 10);
        check.due("wonder(1)", x.wonder(1), 2);
        x.crate(11);
        check.due("wonder(0) later", x.wonder(0), 17);
        x.crate(0);
        check.due("wonder(0) from 0", x.wonder(0), 3);
        check.due("CRATE stays", x.many(1), 0);
        x.crate(99);
        check.due("wonder(0) by 99", x.wonder(0), -9);
        check.due("wonder(1) by 99", x.wonder(1), -9);
        check.due("wonder(2)", x.wonder(2), -2);
        check.due("wonder(-1)", x.wonder(-1), -2);
        aWonder("l00;p19;t20;b03;t20;p06", 0, 4, 0);
        aWonder("l98;b20;b20;p06;p20;p10", 98, 98, 4);
        x = Check.onStreet("l99;t01;b10;b20;b20;b07;p00");
        check.due("99 is beyond, though 100 would deal fewer", x.wonder(0), -9);
        check.due("99 is beyond, the house", x.wonder(1), -9);
        check.due("none of eight is dealt fewer", Check.onStreet("l00" + ";b90".repeat(8)).wonder(0), -9);
        check.due("none is dealt fewer", Check.onStreet("l00;p10;p10").wonder(0), -9);
        check.due("wonder(2) without a street", new LemonDeals().wonder(2), -3);
    }

    private static void aWonder(String text, int from, int crate, int house) {
        LemonDeals x = Check.onStreet(text);
        check.due("wonder(0) of " + text, x.wonder(0), crate);
        check.due("wonder(1) of " + text, x.wonder(1), house);
        check.holds("it is dealt fewer", x.deal(house, crate) == x.deal(house, crate + 1) + 1);
        check.due("CRATE stays", x.many(1), from);
    }

    private static void otherwise() {
        LemonDeals x = Check.onStreet("l10;p60;p00;p30;p10");
        int[] want = {6, 0, 3, 1};
        for (int k = 0; k < 4; k++) {
            check.due("otherwise(" + k + ")", x.otherwise(k), want[k]);
        }
        x.crate(1);
        check.due("one lemon", x.otherwise(0), 1);
        x.crate(2);
        check.due("of several the least", x.otherwise(0), 2);
        check.due("of several the least, the other", x.otherwise(2), 0);
        x.crate(0);
        check.due("no lemon", x.otherwise(0), 0);
        check.due("otherwise(4)", x.otherwise(4), -1);
        check.due("otherwise(-1)", x.otherwise(-1), -1);
        check.due("no SOUR", Check.onStreet("l99;p00").otherwise(0), 0);
        check.due("without a street", new LemonDeals().otherwise(0), -1);
        x = Check.onStreet("l20" + ";b90".repeat(8));
        for (int k = 0; k < 8; k++) {
            check.due("eight alike: " + k, x.otherwise(k), k < 4 ? 3 : 2);
        }
        LemonDeals y = Check.onStreet("l08;p90;p10");
        check.due("otherwise than the DEAL", y.otherwise(0), 8);
        check.due("the DEAL", y.deal(0, 8), 7);
    }

    private static void halves() {
        halve("l00;p60;p30;p20;p10", 1, 0);
        halve("l00;p60;p30;p30;p10", 1, 1);
        halve("l00;p40;p30;p30;p10", 9, 1);
        halve("l00;p60", 1, 6);
        halve("l00;p00;p00", 1, 0);
        halve("l00;p10;p10;p10;p10", 3, 0);
        halve("l00" + ";b90".repeat(8), 15, 0);
        halve("l00;p10;p10;b90", 3, 18);
        LemonDeals x = Check.onStreet("l00;p60;p30");
        check.due("halves(2)", x.halves(2), -2);
        check.due("halves(-1)", x.halves(-1), -2);
        check.due("halves(2) without a street", new LemonDeals().halves(2), -3);
    }

    private static void halve(String text, int set, int apart) {
        LemonDeals x = Check.onStreet(text);
        check.due("halves(0) of " + text, x.halves(0), set);
        check.due("halves(1) of " + text, x.halves(1), apart);
    }
}
