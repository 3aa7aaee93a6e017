/** What the tests share: counting wrong answers, and making streets and rows by texts. */
final class Check {
    private int wrong = 0;
    private int told = 0;
    private int sentences = 0;
    private String sentence = "";

    /** A sentence of the document (its part or promise ahead of it) and the test of its own. */
    void sentence(String words, Runnable test) {
        sentences++;
        sentence = "[" + words + "] ";
        test.run();
        sentence = "";
    }

    void due(String call, long got, long want) {
        told++;
        if (got != want) {
            wrong++;
            System.out.println(sentence + call + " answered " + got + ", due is " + want);
        }
    }

    void same(String what, String got, String want) {
        told++;
        if (!got.equals(want)) {
            wrong++;
            System.out.println(sentence + what + ":\n  is     " + got + "\n  due is " + want);
        }
    }

    void holds(String what, boolean isSo) {
        due(what, isSo ? 1 : 0, 1);
    }

    /** A faulting call: its answer, and the fault that is told behind it. */
    void faults(LemonDeals x, String call, long got, int fault) {
        due(call, got, -10 - fault);
        due("fault() behind " + call, x.fault(), fault);
    }

    /** A refused (or fine) call of those that name faults: fault() is 0 behind it. */
    void withoutFault(LemonDeals x, String call, long got, long want) {
        due(call, got, want);
        due("fault() behind " + call, x.fault(), 0);
    }

    void end(String name) {
        String by = sentences == 0 ? "" : sentences + " sentences, ";
        System.out.println(name + ": " + by + told + " answers, " + wrong + " not as due");
        if (wrong != 0) {
            System.exit(1);
        }
    }

    static void write(LemonDeals x, int sheet, int lane, int... cells) {
        x.sheet(sheet, lane, cells.length);
        for (int i = 0; i < cells.length; i++) {
            x.put(sheet, i, cells[i]);
        }
    }

    static int[] codes(String text) {
        return text.chars().toArray();
    }

    static int take(LemonDeals x, String text) {
        write(x, 3, 0, codes(text));
        return x.street(3, 0, 0, text.length());
    }

    static LemonDeals onStreet(String text) {
        LemonDeals x = new LemonDeals();
        if (take(x, text) < 1) {
            throw new IllegalStateException("no street by " + text);
        }
        return x;
    }
}
