import java.util.ArrayList;
import java.util.Comparator;
import java.util.List;
import java.util.regex.Matcher;
import java.util.regex.Pattern;

/**
 * A second telling of the document, built of other means than the class (objects that override one
 * another, sorted lists, patterns, real arrays of each lane), so that a slip is not made in both.
 */
final class Model {
    private static final long LOST = Long.MIN_VALUE;
    private static final Pattern TEXT = Pattern.compile("l[0-9][0-9](;[ptb][0-9][0-9]){1,8}");

    /** A refusal or a fault: its answer. */
    private static final class Refused extends RuntimeException {
        private static final long serialVersionUID = 1L;
        final int answer;

        Refused(int answer) {
            super(null, null, false, false);
            this.answer = answer;
        }
    }

    private static class Plain {
        int temper;
        int stock;
        int pips;

        int kind() {
            return 0;
        }

        int sour() {
            return temper;
        }

        int tell(Model m) {
            return plainTell(m);
        }

        final int plainTell(Model m) {
            m.leave(1);
            return temper;
        }

        int knock(Model m, int k) {
            m.leave(4);
            return k;
        }
    }

    private static class Tart extends Plain {
        int kind() {
            return 1;
        }

        int sour() {
            return super.sour() + 1;
        }

        int tell(Model m) {
            m.leave(2);
            return super.tell(m) + 100;
        }
    }

    private static final class Bitter extends Tart {
        int kind() {
            return 2;
        }

        int sour() {
            return 2 * super.sour();
        }

        int tell(Model m) {
            m.leave(3);
            int byTart = super.tell(m);
            return byTart + plainTell(m);
        }

        int knock(Model m, int k) {
            m.leave(5);
            return 30;
        }
    }

    private List<Plain> houses = new ArrayList<>();
    private int crate;
    private int week;
    private final List<int[]> readings = new ArrayList<>();
    private final Object[] sheets = new Object[4];
    private int trace;
    private int fault;

    /** Answers a call by its name; args are all ints. */
    long answer(String name, int... a) {
        boolean isLong = name.equals("cell") || name.equals("odds");
        if (List.of("street", "season", "sheet", "put", "cell", "copy", "as").contains(name)) {
            fault = 0;
        }
        try {
            return ask(name, a);
        } catch (Refused r) {
            return isLong ? LOST : r.answer;
        }
    }

    private long ask(String name, int[] a) {
        switch (name) {
            case "street": return street(a[0], a[1], a[2], a[3]);
            case "ofHouse": return ofHouse(a[0], a[1]);
            case "anger": return anger(a[0], a[1]);
            case "crate": return setCrate(a[0]);
            case "deal": house(a[0]); outside(a[1], 0, 99); return dealOf(houses, a[1])[a[0]];
            case "weeks": outside(a[0], 1, 60); state(); return weeks(a[0]);
            case "gift": return gift(a[0]);
            case "season": return season(a[0], a[1], a[2], a[3], a[4]);
            case "calm": state(); outside(a[0], 0, 12); outside(a[1], 0, 9); return calm(a[0], a[1]);
            case "wonder": state(); outside(a[0], 0, 1); return wonder(a[0]);
            case "otherwise": house(a[0]); return otherwise(a[0]);
            case "halves": state(); outside(a[0], 0, 1); return halves(a[0]);
            case "reading": return reading(a[0], a[1]);
            case "back": return back(a[0]);
            case "tempers": house(a[0]); return tempers(a[0]);
            case "kinds": house(a[0]); return kinds(a[0]);
            case "crates": state(); outside(a[0], 0, 2); return crates(a[0]);
            case "odds": house(a[0]); outside(a[1], 0, 99); outside(a[2], 0, 1); return odds(a[0], a[1], a[2]);
            case "sheet": return sheet(a[0], a[1], a[2]);
            case "lose": sheetNumber(a[0]); return lose(a[0]);
            case "put": return put(a[0], a[1], a[2]);
            case "cell": return cell(a[0], a[1], a[2]);
            case "copy": return copy(a[0], a[1], a[2], a[3], a[4]);
            case "tell": house(a[0]); return houses.get(a[0]).tell(this);
            case "knock": house(a[0]); return houses.get(a[0]).knock(this, a[0]);
            case "as": return as(a[0], a[1]);
            case "trace": return trace;
            case "fault": return fault;
            case "many": outside(a[0], 0, 4);
                return new int[] {houses.size(), crate, week, without(houses), readings.size()}[a[0]];
            default: throw new IllegalStateException(name);
        }
    }

    // ---- refusals and faults

    private static void refuse(boolean when, int answer) {
        if (when) {
            throw new Refused(answer);
        }
    }

    private void faultWhen(boolean when, int number) {
        if (when) {
            fault = number;
            throw new Refused(-10 - number);
        }
    }

    private void house(int k) {
        refuse(k < 0 || k >= houses.size(), -1);
    }

    private static void sheetNumber(int k) {
        refuse(k < 0 || k > 3, -1);
    }

    private static void outside(int v, int least, int most) {
        refuse(v < least || v > most, -2);
    }

    private void state() {
        refuse(houses.isEmpty(), -3);
    }

    // ---- the street

    private static Plain houseOf(int kind) {
        return kind == 0 ? new Plain() : kind == 1 ? new Tart() : new Bitter();
    }

    private static Plain like(Plain h, int kind) {
        Plain made = houseOf(kind);
        made.temper = h.temper;
        made.stock = h.stock;
        made.pips = h.pips;
        return made;
    }

    private List<Plain> likeAll() {
        List<Plain> made = new ArrayList<>();
        for (Plain h : houses) {
            made.add(like(h, h.kind()));
        }
        return made;
    }

    private int street(int sheet, int lane, int i, int n) {
        sheetNumber(sheet);
        outside(lane, 0, 2);
        Object row = sheets[sheet];
        faultWhen(row != null && laneOf(row) != lane, 2);
        faultWhen(row == null, 1);
        faultWhen(n < 0, 4);
        faultWhen(!within(row, i, n), 3);
        StringBuilder text = new StringBuilder();
        for (int c = 0; c < n; c++) {
            long code = get(row, i + c);
            text.append(code >= 0 && code < 128 ? (char) code : '?');
        }
        for (int p = 1; p <= n; p++) {
            refuse(!canGoOn(text.substring(0, p)), -100 - (p - 1));
        }
        refuse(!TEXT.matcher(text).matches(), -100 - n);
        crate = Integer.parseInt(text.substring(1, 3));
        week = 0;
        readings.clear();
        houses = new ArrayList<>();
        for (String part : text.substring(4).split(";")) {
            Plain h = houseOf("ptb".indexOf(part.charAt(0)));
            h.temper = part.charAt(1) - '0';
            h.stock = part.charAt(2) - '0';
            houses.add(h);
        }
        return houses.size();
    }

    private static boolean canGoOn(String start) {
        Matcher m = TEXT.matcher(start);
        return m.matches() || m.hitEnd();
    }

    private static int[] dealOf(List<Plain> street, int lemons) {
        int all = 0;
        for (Plain h : street) {
            all += h.sour();
        }
        int[] got = new int[street.size()];
        if (all == 0) {
            return got;
        }
        final int total = all;
        List<Integer> order = new ArrayList<>();
        int left = lemons;
        for (int k = 0; k < got.length; k++) {
            got[k] = lemons * street.get(k).sour() / all;
            left -= got[k];
            order.add(k);
        }
        order.sort(Comparator.comparingInt((Integer k) -> -(lemons * street.get(k).sour() % total)));
        for (int r = 0; r < left; r++) {
            got[order.get(r)]++;
        }
        return got;
    }

    private int ofHouse(int k, int what) {
        house(k);
        outside(what, 0, 6);
        Plain h = houses.get(k);
        return new int[] {h.kind(), h.temper, h.stock, h.pips, h.pips / 4, h.sour(), dealOf(houses, crate)[k]}[what];
    }

    private int anger(int k, int v) {
        house(k);
        outside(v, 0, 9);
        int was = houses.get(k).temper;
        houses.get(k).temper = v;
        return was;
    }

    private int setCrate(int v) {
        state();
        outside(v, 0, 99);
        int was = crate;
        crate = v;
        return was;
    }

    // ---- weeks

    private static int without(List<Plain> street) {
        return (int) street.stream().filter(h -> h.stock == 0).count();
    }

    private static void pass(List<Plain> street, int lemons) {
        int[] got = dealOf(street, lemons);
        for (int k = 0; k < got.length; k++) {
            Plain h = street.get(k);
            int has = h.stock + got[k] + h.pips / 4;
            boolean sucks = has > 0;
            h.stock = sucks ? has - 1 : has;
            h.pips += sucks ? 1 : 0;
            h.temper = sucks ? Math.max(0, h.temper - 1) : Math.min(9, h.temper + 1);
        }
    }

    private int weeks(int n) {
        for (int w = 0; w < n; w++) {
            pass(houses, crate);
        }
        week += n;
        return without(houses);
    }

    private static boolean give(List<Plain> street, int k) {
        if (street.get(k).stock == 0) {
            return false;
        }
        street.get(k).stock -= 1;
        street.get((k + 1) % street.size()).stock += 1;
        return true;
    }

    private int gift(int k) {
        house(k);
        refuse(!give(houses, k), -3);
        return houses.get(k).stock;
    }

    private int season(int sheet, int lane, int i, int n, int what) {
        sheetNumber(sheet);
        outside(lane, 0, 2);
        outside(n, 0, 20);
        refuse(what < 0 || what > 17 || (what > 4 && what < 10), -2);
        state();
        Object row = sheets[sheet];
        faultWhen(row != null && laneOf(row) != lane, 2);
        faultWhen(row == null, 1);
        faultWhen(!within(row, i, 2 * n), 3);
        for (int p = 0; p < n; p++) {
            long first = get(row, i + 2 * p);
            long second = get(row, i + 2 * p + 1);
            refuse(second < 0 || second > 2, -2);
            refuse(second == 0 && (first < 0 || first > 9), -2);
            refuse(second == 2 && (first < 0 || first > 99), -2);
            refuse(second == 1 && (first < 0 || first >= houses.size()), -1);
        }
        List<Plain> street = likeAll();
        int lemons = crate;
        int lean = 0;
        int wrong = -9;
        for (int p = 0; p < n && wrong == -9; p++) {
            int first = (int) get(row, i + 2 * p);
            int second = (int) get(row, i + 2 * p + 1);
            if (second == 2) {
                lemons = first;
            } else if (second == 1) {
                wrong = give(street, first) ? -9 : p;
            } else {
                for (int w = 0; w < first; w++) {
                    pass(street, lemons);
                    lean += without(street) > 0 ? 1 : 0;
                }
            }
        }
        if (what == 1) {
            return wrong;
        }
        refuse(wrong != -9, -100 - wrong);
        switch (what) {
            case 0: return street.stream().mapToInt(h -> h.stock).sum();
            case 2: return street.stream().mapToInt(h -> h.temper).sum();
            case 3: return lean;
            case 4: return street.stream().mapToInt(h -> h.pips).sum();
            default: return what - 10 < street.size() ? street.get(what - 10).temper : -9;
        }
    }

    // ---- how it would be dealt

    private int calm(int n, int v) {
        for (int lemons = 0; lemons < 100; lemons++) {
            List<Plain> street = likeAll();
            for (int w = 0; w < n; w++) {
                pass(street, lemons);
            }
            if (street.stream().allMatch(h -> h.temper <= v)) {
                return lemons;
            }
        }
        return -9;
    }

    private int wonder(int what) {
        for (int lemons = crate; lemons <= 98; lemons++) {
            int[] less = dealOf(houses, lemons);
            int[] more = dealOf(houses, lemons + 1);
            for (int k = 0; k < less.length; k++) {
                if (less[k] > more[k]) {
                    return what == 0 ? lemons : k;
                }
            }
        }
        return -9;
    }

    /** The crate's greatest shares of all SOUR by 1, 2, 3 .., sorted at once. */
    private int otherwise(int k) {
        List<int[]> shares = new ArrayList<>();
        for (int h = 0; h < houses.size(); h++) {
            for (int by = 1; by <= 99 && houses.get(h).sour() > 0; by++) {
                shares.add(new int[] {houses.get(h).sour(), by, h});
            }
        }
        shares.sort((a, b) -> {
            int order = Integer.compare(b[0] * a[1], a[0] * b[1]);
            return order != 0 ? order : Integer.compare(a[2], b[2]);
        });
        return (int) shares.stream().limit(crate).filter(s -> s[2] == k).count();
    }

    private int halves(int what) {
        int best = -1;
        int apartBest = 0;
        for (int set = (1 << houses.size()) - 1; set > 0; set--) {
            int in = 0;
            int out = 0;
            for (int k = 0; k < houses.size(); k++) {
                if ((set & 1 << k) != 0) {
                    in += houses.get(k).sour();
                } else {
                    out += houses.get(k).sour();
                }
            }
            if ((set & 1) == 1 && (best < 0 || Math.abs(in - out) <= apartBest)) {
                best = set;
                apartBest = Math.abs(in - out);
            }
        }
        return what == 0 ? best : apartBest;
    }

    // ---- what was dealt

    private int reading(int k, int v) {
        house(k);
        outside(v, 0, 99);
        refuse(readings.size() == 8, -4);
        readings.add(new int[] {k, v});
        return readings.size() - 1;
    }

    private int back(int k) {
        outside(k, 0, readings.size());
        for (int r = 0; r < k; r++) {
            readings.remove(readings.size() - 1);
        }
        return readings.size();
    }

    private boolean isSo(List<Plain> street, int lemons) {
        int[] got = dealOf(street, lemons);
        return readings.stream().allMatch(r -> got[r[0]] == r[1]);
    }

    private int tempers(int k) {
        int set = 0;
        for (int t = 0; t < 10; t++) {
            List<Plain> street = likeAll();
            street.get(k).temper = t;
            set += isSo(street, crate) ? 1 << t : 0;
        }
        return set;
    }

    private int kinds(int k) {
        int set = 0;
        for (int kind = 0; kind < 3; kind++) {
            List<Plain> street = likeAll();
            street.set(k, like(street.get(k), kind));
            set += isSo(street, crate) ? 1 << kind : 0;
        }
        return set;
    }

    private int crates(int what) {
        List<Integer> found = new ArrayList<>();
        for (int lemons = 0; lemons < 100; lemons++) {
            if (isSo(houses, lemons)) {
                found.add(lemons);
            }
        }
        if (what == 0) {
            return found.size();
        }
        return found.isEmpty() ? -9 : found.get(what == 1 ? 0 : found.size() - 1);
    }

    private int odds(int k, int v, int which) {
        int upper = 0;
        for (int lemons = 0; lemons < 100; lemons++) {
            upper += dealOf(houses, lemons)[k] >= v ? 1 : 0;
        }
        int by = java.math.BigInteger.valueOf(upper).gcd(java.math.BigInteger.valueOf(100)).intValue();
        return which == 0 ? upper / by : 100 / by;
    }

    // ---- sheets

    private static int laneOf(Object row) {
        return row instanceof byte[] ? 0 : row instanceof short[] ? 1 : 2;
    }

    private static int lengthOf(Object row) {
        return java.lang.reflect.Array.getLength(row);
    }

    private static long get(Object row, int i) {
        return java.lang.reflect.Array.getLong(row, i);
    }

    private static boolean within(Object row, int i, int n) {
        return i >= 0 && n >= 0 && (long) i + n <= lengthOf(row);
    }

    private int sheet(int k, int lane, int n) {
        sheetNumber(k);
        outside(lane, 0, 2);
        refuse(n > 60, -2);
        faultWhen(n < 0, 4);
        sheets[k] = lane == 0 ? new byte[n] : lane == 1 ? new short[n] : new int[n];
        return 1;
    }

    private int lose(int k) {
        int had = sheets[k] == null ? 0 : 1;
        sheets[k] = null;
        return had;
    }

    private int put(int k, int i, int v) {
        sheetNumber(k);
        Object row = sheets[k];
        faultWhen(row == null, 1);
        faultWhen(i < 0 || i >= lengthOf(row), 3);
        if (row instanceof byte[] bytes) {
            bytes[i] = (byte) v;
        } else if (row instanceof short[] shorts) {
            shorts[i] = (short) v;
        } else {
            ((int[]) row)[i] = v;
        }
        return 1;
    }

    private long cell(int k, int i, int lane) {
        sheetNumber(k);
        outside(lane, 0, 2);
        Object row = sheets[k];
        faultWhen(row != null && laneOf(row) != lane, 2);
        faultWhen(row == null, 1);
        faultWhen(i < 0 || i >= lengthOf(row), 3);
        return get(row, i);
    }

    private int copy(int k, int i, int other, int j, int n) {
        sheetNumber(k);
        sheetNumber(other);
        faultWhen(sheets[k] == null || sheets[other] == null, 1);
        faultWhen(laneOf(sheets[k]) != laneOf(sheets[other]), 2);
        faultWhen(!within(sheets[k], i, n) || !within(sheets[other], j, n), 3);
        System.arraycopy(sheets[k], i, sheets[other], j, n);
        return n;
    }

    // ---- parts

    private int as(int k, int kind) {
        house(k);
        outside(kind, 0, 2);
        Plain h = houses.get(k);
        boolean isOne = kind == 0 || (kind == 1 ? h instanceof Tart : h instanceof Bitter);
        faultWhen(!isOne, 2);
        return 1;
    }

    private void leave(int number) {
        trace = 31 * trace + number;
    }
}
