import java.lang.reflect.InvocationTargetException;
import java.lang.reflect.Method;
import java.util.ArrayList;
import java.util.Arrays;
import java.util.Comparator;
import java.util.List;
import java.util.Random;

/** All promises: long runs of calls with drawn arguments, each answer held against the Model's. */
public final class ModelTest {
    private static final int RUNS = 1500;
    private static final int CALLS = 512;
    private static final int[] EDGES = {Integer.MIN_VALUE, Integer.MAX_VALUE, -1, 61, 100, 1 << 30, -(1 << 30)};

    private static int wrong = 0;
    private static int done = 0;

    private final Random random;
    private final LemonDeals x = new LemonDeals();
    private final Model model = new Model();
    private int calls = 0;

    private ModelTest(long seed) {
        random = new Random(seed);
    }

    public static void main(String[] args) throws Exception {
        List<Method> methods = new ArrayList<>();
        for (Method m : LemonDeals.class.getDeclaredMethods()) {
            if (java.lang.reflect.Modifier.isPublic(m.getModifiers())) {
                methods.add(m);
            }
        }
        methods.sort(Comparator.comparing(Method::getName));
        for (int run = 0; run < RUNS && wrong < 20; run++) {
            new ModelTest(run).go(run, methods);
        }
        System.out.println("ModelTest: " + done + " answers, " + wrong + " not as due");
        if (wrong != 0) {
            System.exit(1);
        }
    }

    private void go(int run, List<Method> methods) throws Exception {
        boolean wild = run % 5 == 4;
        while (calls < CALLS - 80) {
            int drawn = random.nextInt(30);
            if (drawn == 0 && !wild) {
                writeStreet();
            } else if (drawn == 1 && !wild) {
                writeSeason();
            } else {
                Method m = methods.get(random.nextInt(methods.size()));
                call(m, arguments(m, wild));
            }
        }
    }

    private void call(Method m, int... args) throws Exception {
        Object[] boxed = Arrays.stream(args).boxed().toArray();
        long got;
        try {
            got = ((Number) m.invoke(x, boxed)).longValue();
        } catch (InvocationTargetException e) {
            wrong++;
            System.out.println(m.getName() + Arrays.toString(args) + " threw " + e.getCause());
            return;
        }
        long due = model.answer(m.getName(), args);
        calls++;
        done++;
        if (got != due) {
            wrong++;
            System.out.println(m.getName() + Arrays.toString(args) + " answered " + got + ", the model says " + due);
        }
    }

    private void call(String name, int... args) throws Exception {
        Class<?>[] types = new Class<?>[args.length];
        Arrays.fill(types, int.class);
        call(LemonDeals.class.getDeclaredMethod(name, types), args);
    }

    private int[] arguments(Method m, boolean wild) {
        int[] args = new int[m.getParameterCount()];
        for (int i = 0; i < args.length; i++) {
            args[i] = argument(m.getName(), i, wild);
        }
        return args;
    }

    private int argument(String name, int i, boolean wild) {
        int drawn = random.nextInt(wild ? 8 : 40);
        if (drawn == 0) {
            return EDGES[random.nextInt(EDGES.length)];
        }
        switch (name + i) {
            case "crate0": case "deal1":
                return random.nextInt(101);
            case "reading1": case "odds1":
                return random.nextInt(random.nextInt(8) == 0 ? 101 : 12);
            case "weeks0":
                return random.nextInt(6) == 0 ? random.nextInt(62) : random.nextInt(5);
            case "season4":
                return random.nextInt(19);
            case "season3": case "street3":
                return random.nextInt(8);
            case "sheet2":
                return random.nextInt(62) - 1;
            case "put2":
                return random.nextInt(3) == 0 ? random.nextInt() : random.nextInt(130);
            case "put1": case "cell1": case "copy1": case "copy3": case "copy4": case "street2": case "season2":
                return random.nextInt(3) == 0 ? random.nextInt(62) : random.nextInt(6) - 1;
            case "anger1": case "calm1":
                return random.nextInt(11);
            case "calm0":
                return random.nextInt(14);
            case "back0":
                return random.nextInt(4);
            default:
                return random.nextInt(wild ? 6 : 4) - (drawn == 1 ? 1 : 0);
        }
    }

    private void writeStreet() throws Exception {
        StringBuilder text = new StringBuilder("l");
        text.append(random.nextInt(10)).append(random.nextInt(10));
        int houses = random.nextInt(12) == 0 ? 9 : 1 + random.nextInt(8);
        int tempers = random.nextInt(3) == 0 ? 3 : 10;
        for (int k = 0; k < houses; k++) {
            text.append(';').append("ptb".charAt(random.nextInt(3)));
            text.append(random.nextInt(tempers)).append(random.nextInt(4));
        }
        if (random.nextInt(4) == 0) {
            text.setCharAt(random.nextInt(text.length()), "l;ptb059/:x".charAt(random.nextInt(11)));
        }
        if (random.nextInt(6) == 0) {
            text.setLength(random.nextInt(text.length() + 1));
        }
        int lane = random.nextInt(3);
        int ahead = random.nextInt(4);
        call("sheet", 0, lane, text.length() + ahead);
        for (int i = 0; i < text.length(); i++) {
            call("put", 0, ahead + i, text.charAt(i));
        }
        call("street", 0, lane, ahead, text.length());
    }

    private void writeSeason() throws Exception {
        int lane = random.nextInt(3);
        int pairs = random.nextInt(12);
        call("sheet", 1, lane, 2 * pairs + 1);
        for (int p = 0; p < pairs; p++) {
            int second = random.nextInt(30) == 0 ? 3 : random.nextInt(3);
            int first = second == 2 ? random.nextInt(30) : random.nextInt(second == 1 ? 3 : 6);
            call("put", 1, 2 * p, first);
            call("put", 1, 2 * p + 1, second);
        }
        for (int what : new int[] {0, 1, 2, 3, 4, 10, 11, 12, 17}) {
            call("season", 1, lane, 0, pairs, what);
        }
    }
}
