import java.lang.reflect.InvocationTargetException;
import java.lang.reflect.Method;
import java.util.Arrays;
import java.util.List;

/** Calls by their names, and portraits of all that can be asked of an object. */
final class Calls {
    private static final long LOST = Long.MIN_VALUE;
    private static final List<String> NAME_FAULTS =
        List.of("street", "season", "sheet", "put", "cell", "copy", "as");

    private Calls() {
    }

    static long ask(LemonDeals x, String name, int... args) {
        Class<?>[] types = new Class<?>[args.length];
        Arrays.fill(types, int.class);
        try {
            Method call = LemonDeals.class.getDeclaredMethod(name, types);
            return ((Number) call.invoke(x, Arrays.stream(args).boxed().toArray())).longValue();
        } catch (InvocationTargetException e) {
            throw new IllegalStateException(told(name, args) + " threw " + e.getCause(), e.getCause());
        } catch (ReflectiveOperationException e) {
            throw new IllegalStateException("there is no " + told(name, args), e);
        }
    }

    static String told(String name, int... args) {
        String list = Arrays.toString(args);
        return name + "(" + list.substring(1, list.length() - 1) + ")";
    }

    static boolean namesFaults(String name) {
        return NAME_FAULTS.contains(name);
    }

    static boolean answersLong(String name) {
        return name.equals("cell") || name.equals("odds");
    }

    /** All that can be asked but fault(): the street, the readings, the sheets, the trace. */
    static String portrait(LemonDeals x) {
        StringBuilder all = new StringBuilder();
        for (int what = 0; what < 5; what++) {
            all.append(x.many(what)).append(' ');
        }
        for (int k = 0; k < x.many(0); k++) {
            all.append("| ");
            for (int what = 0; what < 7; what++) {
                all.append(x.ofHouse(k, what)).append(' ');
            }
            all.append(x.tempers(k)).append(' ').append(x.kinds(k)).append(' ');
        }
        all.append("| ").append(x.crates(0)).append(' ').append(x.crates(1)).append(' ').append(x.crates(2));
        all.append(" | trace ").append(x.trace());
        for (int k = 0; k < 4; k++) {
            all.append(" | ").append(sheetOf(x, k));
        }
        return all.toString();
    }

    private static String sheetOf(LemonDeals x, int k) {
        int lane = 0;
        x.cell(k, 0, lane);
        while (x.fault() == 2 && lane < 2) {
            lane++;
            x.cell(k, 0, lane);
        }
        if (x.fault() == 1) {
            return "nothing";
        }
        StringBuilder row = new StringBuilder("lane " + lane + ":");
        for (int i = 0; i < 60; i++) {
            long cell = x.cell(k, i, lane);
            if (cell == LOST) {
                break;
            }
            row.append(' ').append(cell);
        }
        return row.toString();
    }
}
