/** What the tests share: answers that are due, and texts put on the tape. */
final class Check {
    static final int NULL_ROW = -1000011, PLACE = -1000012, KIND = -1000013, SIZE = -1000014, STORE = -1000015;
    private static int wrong = 0;

    private Check() {
    }

    static void due(String what, long got, long want) {
        if (got != want) {
            wrong++;
            if (wrong <= 40) {
                System.out.println(what + " answered " + got + ", due is " + want);
            }
        }
    }

    /** The answers of a house to 0 .. 8, or any such row, as one line. */
    static void dueAll(String what, int[] got, int... want) {
        due(what + ": how many", got.length, want.length);
        for (int k = 0; k < Math.min(got.length, want.length); k++) {
            due(what + "[" + k + "]", got[k], want[k]);
        }
    }

    static void feed(LieSlides x, String text) {
        for (int at = 0; at < text.length(); at += 8) {
            int n = Math.min(8, text.length() - at);
            long w = 0;
            for (int k = 0; k < n; k++) {
                w = w << 8 | text.charAt(at + k) & 255;
            }
            x.feed(w, n);
        }
    }

    static int read(LieSlides x, String text) {
        feed(x, text);
        return x.field();
    }

    static LieSlides with(String text) {
        LieSlides x = new LieSlides();
        if (read(x, text) < 1) {
            due("a text that is right: " + text, 0, 1);
        }
        return x;
    }

    static void fill(LieSlides x, int row, int lane, int... items) {
        x.row(row, lane, items.length);
        for (int k = 0; k < items.length; k++) {
            x.set(row, k, items[k]);
        }
    }

    static int[] xs(LieSlides x) {
        int[] xs = new int[x.count(1)];
        for (int h = 0; h < xs.length; h++) {
            xs[h] = x.house(h, 0);
        }
        return xs;
    }

    static int[] trace(LieSlides x) {
        int n = 0;
        while (n < 20 && x.trace(n) != LieSlides.NONE) {
            n++;
        }
        int[] trace = new int[n];
        for (int k = 0; k < n; k++) {
            trace[k] = x.trace(k);
        }
        return trace;
    }

    static void end() {
        System.out.println(wrong == 0 ? "all answers are as due" : wrong + " answers are not as due");
        if (wrong != 0) {
            System.exit(1);
        }
    }
}
