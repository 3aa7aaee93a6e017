import java.util.Arrays;

/** Part 1's texts: each place of a text, with each code next to those that are right there, and each length. */
public final class TextsTest {
    private static final Check check = new Check();
    private static final String HOUSES_8 = "l09;p60;t21;b30;p00;t99;b99;p10;t55";

    public static void main(String[] args) {
        check.sentence("1: the first code with which no TEXT goes on", TextsTest::wrongCodes);
        check.sentence("1: a code of a wide LANE is no narrower one", TextsTest::wideCodes);
        check.sentence("1: how many codes there are, if it just ends too soon", TextsTest::endsTooSoon);
        check.sentence("1: the ; of a ninth HOUSE", TextsTest::ninthHouse);
        check.sentence("1: 1 to 8 HOUSES", TextsTest::oneToEight);
        check.sentence("1: CRATE 00 .. 99, TEMPER 0 .. 9, STOCK 0 .. 9", TextsTest::allDigits);
        check.sentence("1: a letter: p, t, b alone", TextsTest::allLetters);
        check.sentence("1: the first of several", TextsTest::firstOfSeveral);
        check.sentence("1: places are told from 0 on, wherever the TEXT begins", TextsTest::placesOfTheText);
        check.sentence("2: up to the last cell, none behind n is looked at", TextsTest::upToTheLastCell);
        check.sentence("1: a TEXT that is taken makes all anew, but for SHEETS and TRACE", TextsTest::allAnew);
        check.sentence("1: a TEXT that isn't taken makes nothing anew", TextsTest::nothingAnew);
        check.end("TextsTest");
    }

    private static LemonDeals inRow(int lane, int... cells) {
        LemonDeals x = new LemonDeals();
        Check.write(x, lane, lane, cells);
        return x;
    }

    private static int taken(int lane, int... cells) {
        return inRow(lane, cells).street(lane, lane, 0, cells.length);
    }

    /** Codes that are wrong at a place: those next to the right ones, other right ones', and far ones. */
    private static int[] wrongAt(int place) {
        if (place == 0) {
            return new int[] {'k', 'm', 'L', 'p', '0', ';', 0, -1, 127, -128, '1'};
        }
        int in = place < 3 ? 2 : (place - 3) % 4;
        switch (in) {
            case 0:
                return new int[] {':', '<', ',', '0', 'p', 'l', ' ', 0, -1, -59, 127};
            case 1:
                return new int[] {'o', 'q', 's', 'u', 'a', 'c', 'P', 'T', 'B', 'l', ';', '0', 0, -1, 127};
            default:
                return new int[] {'/', ':', ';', 'p', 'b', 'l', ' ', 0, -1, 9, -48, 127, -128};
        }
    }

    private static void wrongCodes() {
        int[] right = Check.codes(HOUSES_8);
        for (int lane = 0; lane < 3; lane++) {
            for (int place = 0; place < right.length; place++) {
                for (int code : wrongAt(place)) {
                    int[] codes = right.clone();
                    codes[place] = code;
                    check.due("code " + code + " at " + place + ", lane " + lane, taken(lane, codes), -100 - place);
                }
            }
        }
    }

    private static void wideCodes() {
        int[] right = Check.codes("l09;p60;t21");
        for (int place = 0; place < right.length; place++) {
            int[] codes = right.clone();
            codes[place] = right[place] + 256;
            check.due("a byte", taken(0, codes), 2);
            check.due("a short and 256 at " + place, taken(1, codes), -100 - place);
            check.due("an int and 256 at " + place, taken(2, codes), -100 - place);
            codes[place] = right[place] + 65536;
            check.due("a byte", taken(0, codes), 2);
            check.due("a short", taken(1, codes), 2);
            check.due("an int and 65536 at " + place, taken(2, codes), -100 - place);
        }
    }

    private static void endsTooSoon() {
        int[] right = Check.codes(HOUSES_8);
        for (int n = 0; n <= right.length; n++) {
            boolean isWhole = n >= 7 && n % 4 == 3;
            LemonDeals x = inRow(0, right);
            check.due("the first " + n + " codes", x.street(0, 0, 0, n), isWhole ? (n - 3) / 4 : -100 - n);
            check.due("HOUSES", x.many(0), isWhole ? (n - 3) / 4 : 0);
        }
    }

    private static void ninthHouse() {
        int[] nine = Check.codes(HOUSES_8 + ";p60;p60");
        for (int n = 36; n <= nine.length; n++) {
            check.due(n + " codes", inRow(1, nine).street(1, 1, 0, n), -135);
        }
        check.due("another code there", taken(0, Check.codes(HOUSES_8 + "p")), -135);
        check.due("60 codes", taken(2, Arrays.copyOf(Check.codes(HOUSES_8), 60)), -135);
    }

    private static void oneToEight() {
        for (int houses = 1; houses <= 8; houses++) {
            String text = "l10" + ";t34".repeat(houses);
            LemonDeals x = Check.onStreet(text);
            check.due("HOUSES", x.many(0), houses);
            check.due("the last one's TEMPER", x.ofHouse(houses - 1, 1), 3);
            check.due("the last one's STOCK", x.ofHouse(houses - 1, 2), 4);
            check.due("none behind it", x.ofHouse(houses, 1), -1);
        }
    }

    private static void allDigits() {
        for (int crate = 0; crate <= 99; crate++) {
            String text = "l" + crate / 10 + crate % 10 + ";p" + crate / 10 + crate % 10;
            LemonDeals x = Check.onStreet(text);
            check.due("CRATE of " + text, x.many(1), crate);
            check.due("TEMPER of " + text, x.ofHouse(0, 1), crate / 10);
            check.due("STOCK of " + text, x.ofHouse(0, 2), crate % 10);
        }
    }

    private static void allLetters() {
        for (int code = -128; code < 128; code++) {
            int kind = code < 0 ? -1 : "ptb".indexOf(code);
            LemonDeals x = inRow(0, 'l', '0', '0', ';', code, '1', '1');
            check.due("letter " + code, x.street(0, 0, 0, 7), kind < 0 ? -104 : 1);
            check.due("its kind", x.ofHouse(0, 0), kind < 0 ? -1 : kind);
        }
    }

    private static void firstOfSeveral() {
        check.due("two wrong ones", taken(0, Check.codes("l0x;x60")), -102);
        check.due("a wrong one, and it ends too soon", taken(0, Check.codes("l0x;p6")), -102);
        int[] both = Check.codes("l00" + ";p60".repeat(7) + ";p6x;");
        check.due("a wrong one ahead of a ninth HOUSE", taken(0, both), -134);
        check.due("all wrong", taken(0, 0, 0, 0), -100);
    }

    private static void placesOfTheText() {
        int[] cells = Check.codes("l09;p60l09;p6x");
        LemonDeals x = inRow(0, cells);
        check.due("a wrong code behind the first TEXT", x.street(0, 0, 7, 7), -106);
        check.due("it ends too soon", x.street(0, 0, 7, 5), -105);
        check.due("no codes", x.street(0, 0, 7, 0), -100);
        check.due("from 1 on", x.street(0, 0, 1, 6), -100);
    }

    private static void upToTheLastCell() {
        for (int lane = 0; lane < 3; lane++) {
            int[] cells = new int[60];
            int[] text = Check.codes("l34;b57");
            System.arraycopy(text, 0, cells, 53, 7);
            System.arraycopy(text, 0, cells, 0, 7);
            LemonDeals x = inRow(lane, cells);
            check.due("the last seven cells", x.street(lane, lane, 53, 7), 1);
            check.due("CRATE", x.many(1), 34);
            check.due("STOCK", x.ofHouse(0, 2), 7);
            x.crate(0);
            check.due("the first seven cells", x.street(lane, lane, 0, 7), 1);
            check.due("CRATE", x.many(1), 34);
            x = inRow(lane, cells);
            check.due("one cell more", x.street(lane, lane, 0, 8), -107);
            check.due("none of them, at the end", x.street(lane, lane, 60, 0), -100);
        }
        LemonDeals x = inRow(0, Check.codes(HOUSES_8));
        check.due("all cells of a row", x.street(0, 0, 0, 35), 8);
    }

    private static LemonDeals lived() {
        LemonDeals x = Check.onStreet("l90;p94;t94;b94");
        x.weeks(5);
        x.reading(0, 1);
        x.reading(2, 9);
        x.knock(2);
        Check.write(x, 0, 2, 7, -7);
        return x;
    }

    private static void allAnew() {
        LemonDeals x = lived();
        check.due("PIPS ahead", x.ofHouse(0, 3), 5);
        check.due("TREES ahead", x.ofHouse(2, 4), 1);
        check.due("a shorter street", Check.take(x, "l12;p34;t56"), 2);
        LemonDeals fresh = Check.onStreet("l12;p34;t56");
        for (int k = 0; k < 3; k++) {
            for (int what = 0; what < 7; what++) {
                check.due("ofHouse(" + k + ", " + what + ")", x.ofHouse(k, what), fresh.ofHouse(k, what));
            }
            check.due("tempers(" + k + ")", x.tempers(k), k < 2 ? 1023 : -1);
        }
        for (int what = 0; what < 5; what++) {
            check.due("many(" + what + ")", x.many(what), fresh.many(what));
        }
        check.due("TRACE stays", x.trace(), 5);
        check.due("SHEETS stay", x.cell(0, 1, 2), -7);
        check.due("the row of the TEXT stays", x.cell(3, 0, 0), 'l');
        check.due("READINGS begin with 0", x.reading(0, 1), 0);
        check.due("a longer street", Check.take(x, "l12;p34;t56;b78;b90"), 4);
        check.due("no PIPS of long ago", x.ofHouse(2, 3), 0);
        check.due("no READINGS", x.many(4), 0);
        check.due("WEEK", x.many(2), 0);
    }

    private static void nothingAnew() {
        LemonDeals x = lived();
        Check.write(x, 3, 0, Check.codes("l12;p34;t5"));
        String ahead = Calls.portrait(x);
        check.due("a TEXT that ends too soon", x.street(3, 0, 0, 10), -110);
        check.same("all is as ahead of it", Calls.portrait(x), ahead);
        check.due("no such TEXT", x.street(3, 0, 1, 7), -100);
        check.same("all is as ahead of it", Calls.portrait(x), ahead);
    }
}
