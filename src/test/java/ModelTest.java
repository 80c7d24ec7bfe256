import java.util.Random;

/** Promises 1 to 25: seeded runs of calls, right ones and wrong ones, compared with the model. */
public final class ModelTest {
    private static final int RUNS = 400;
    /** An object is used for so many calls; what later ones answer is free. */
    private static final int CALLS = 512;
    private static final int END_CALLS = 13;
    private static final int[] ODD = {-1, -2, 8, 9, 16, 40, 41, 128, Integer.MAX_VALUE, Integer.MIN_VALUE};

    private final Random random;
    private final LieSlides x = new LieSlides();
    private final Model m = new Model();
    private final StringBuilder log = new StringBuilder();
    private int calls = 0;

    private ModelTest(long seed) {
        random = new Random(seed);
    }

    public static void main(String[] args) {
        for (int seed = 0; seed < RUNS; seed++) {
            new ModelTest(seed).run(seed);
        }
        Check.end();
    }

    private void run(int seed) {
        if (random.nextInt(20) != 0) {
            text();
        }
        while (calls < CALLS - END_CALLS) {
            step();
        }
        for (int what = 0; what <= 6; what++) {
            due("count(" + what + ") at the end of run " + seed, x.count(what), m.count(what));
        }
        for (int h = 0; h < 6; h++) {
            due("X of " + h + " at the end of run " + seed, x.house(h, 0), m.house(h, 0));
        }
    }

    private void due(String call, int got, int want) {
        calls++;
        if (got != want && calls <= CALLS) {
            Check.due("after" + log.substring(Math.max(0, log.length() - 600)) + "\n" + call, got, want);
        }
        log.append('\n').append(call).append(" = ").append(got);
    }

    private int upTo(int n) {
        return random.nextInt(n + 1);
    }

    /** A number of 0 .. most, or seldom one that may be wrong. */
    private int any(int most) {
        return random.nextInt(25) == 0 ? ODD[random.nextInt(ODD.length)] : upTo(most);
    }

    private int house() {
        return any(random.nextInt(30) == 0 ? 6 : Math.max(0, m.count(1) - 1));
    }

    private String sort() {
        String[] sorts = {"judge", "inn", "mill", "shop", "hut"};
        return sorts[random.nextInt(5)];
    }

    /** Told so that most houses find room: the model tells which do. */
    private String newField() {
        int brook = 8 + upTo(7);
        StringBuilder head = new StringBuilder("facts " + upTo(255) + " " + brook + ";");
        for (int k = upTo(random.nextInt(12) == 0 ? 13 : 3); k > 0; k--) {
            head.append("wall ").append(upTo(15)).append(' ').append(upTo(7)).append(';');
        }
        for (int k = upTo(random.nextInt(12) == 0 ? 9 : 3); k > 0; k--) {
            int from = upTo(15);
            head.append("path ").append(upTo(7)).append(' ').append(from).append(' ').append(from + upTo(15 - from)).append(';');
        }
        int tall = 1 + upTo(7);
        for (int tries = 0, houses = 0, wanted = 1 + upTo(6); tries < 40 && houses < wanted; tries++) {
            String one = "house " + sort() + " " + upTo(random.nextInt(4) == 0 ? 15 : 7) + " " + random.nextInt(tall) + " "
                + (1 + upTo(random.nextInt(3))) + " " + (1 + upTo(random.nextInt(3))) + ";";
            Model probe = new Model();
            feedModel(probe, head + one);
            if (probe.field() > 0) {
                head.append(one);
                houses++;
            }
        }
        return head.toString();
    }

    private static void feedModel(Model m, String text) {
        for (int at = 0; at < text.length(); at++) {
            m.feed(text.charAt(at), 1);
        }
    }

    private String broken(String text) {
        StringBuilder b = new StringBuilder(text);
        String signs = "; \nx09a5z{`/:\u00ff\t";
        for (int k = upTo(2); k >= 0 && b.length() > 0; k--) {
            int at = random.nextInt(b.length());
            switch (random.nextInt(4)) {
                case 0: b.deleteCharAt(at); break;
                case 1: b.insert(at, signs.charAt(random.nextInt(signs.length()))); break;
                case 2: b.setCharAt(at, signs.charAt(random.nextInt(signs.length()))); break;
                default: b.setLength(at);
            }
        }
        return b.toString();
    }

    private void text() {
        String text = newField();
        if (random.nextInt(4) == 0) {
            text = broken(text);
        }
        for (int at = 0; at < text.length();) {
            int n = Math.min(text.length() - at, random.nextInt(4) == 0 ? 1 + upTo(7) : 8);
            long w = random.nextLong();
            for (int k = 0; k < n; k++) {
                w = w << 8 | text.charAt(at + k);
            }
            due("feed(" + w + ", " + n + ")", x.feed(w, n), m.feed(w, n));
            at += n;
        }
        due("field() of " + text, x.field(), m.field());
        due("fault()", x.fault(), m.fault());
    }

    private void put(int row, int i, int v) {
        due("set(" + row + ", " + i + ", " + v + ")", x.set(row, i, v), m.set(row, i, v));
    }

    private void newRow(int row, int lane, int n) {
        due("row(" + row + ", " + lane + ", " + n + ")", x.row(row, lane, n), m.row(row, lane, n));
    }

    private void rowStep() {
        int a = any(7);
        int b = random.nextInt(3) == 0 ? a : any(7);
        switch (random.nextInt(5)) {
            case 0: newRow(a, any(2), any(random.nextInt(2) == 0 ? 40 : 5)); break;
            case 1: put(a, any(10), random.nextInt(2) == 0 ? upTo(95) : random.nextInt()); break;
            case 2:
            case 3: {
                int i = any(4);
                int j = any(4);
                int n = any(6);
                due("copy(" + a + ", " + i + ", " + b + ", " + j + ", " + n + ")", x.copy(a, i, b, j, n), m.copy(a, i, b, j, n));
                break;
            }
            default: due("drop(" + a + ")", x.drop(a), m.drop(a));
        }
        due("status()", x.status(), m.status());
    }

    private void talkStep() {
        int n = 1 + upTo(8);
        int houses = m.count(1);
        newRow(2, upTo(2), n);
        for (int k = 0; k < n; k++) {
            put(2, k, random.nextInt(60) == 0 ? random.nextInt() : upTo(Math.max(0, 16 * houses - 1)));
        }
        int from = random.nextInt(4) == 0 ? any(3) : 0;
        int many = random.nextInt(10) == 0 ? any(21) : n - Math.min(n - 1, Math.max(0, from));
        due("talk(2, " + from + ", " + many + ")", x.talk(2, from, many), m.talk(2, from, many));
        due("status()", x.status(), m.status());
    }

    /** Stands that some set brings about, or nearly so. */
    private void liesStep() {
        int houses = m.count(1);
        int n = 1 + upTo(7);
        newRow(0, 0, n);
        newRow(1, 0, houses);
        for (int k = 0; k < n; k++) {
            put(0, k, random.nextInt(80) == 0 ? -1 : upTo(Math.max(0, houses - 1)));
        }
        int set = upTo((1 << n) - 1);
        int[] stands = standsBy(n, set);
        for (int h = 0; h < houses; h++) {
            put(1, h, stands[h] + (random.nextInt(30) == 0 ? 1 : 0));
        }
        int said = random.nextInt(40) == 0 ? any(7) : 0;
        int at = random.nextInt(40) == 0 ? any(7) : 1;
        int many = random.nextInt(20) == 0 ? any(9) : n;
        for (int i = -1; i < 4; i++) {
            due("lies(" + said + ", " + many + ", " + at + ", " + i + ")", x.lies(said, many, at, i), m.lies(said, many, at, i));
        }
        for (int what = random.nextInt(10) == 0 ? -1 : 0; what < 3; what++) {
            due("guess(" + said + ", " + many + ", " + at + ", " + what + ")", x.guess(said, many, at, what), m.guess(said, many, at, what));
        }
        due("status()", x.status(), m.status());
    }

    private int[] standsBy(int n, int set) {
        int[] stands = new int[m.count(1)];
        for (int h = 0; h < stands.length; h++) {
            stands[h] = m.house(h, 0);
        }
        return stands.length == 0 ? stands : m.standsAfter(0, n, set, stands);
    }

    private void fieldStep() {
        int h = house();
        int v = any(15);
        int k = random.nextInt(3) == 0 ? any(4) : -1;
        switch (random.nextInt(10)) {
            case 0: due("wanted(" + h + ", " + v + ", " + k + ")", x.wanted(h, v, k), m.wanted(h, v, k)); break;
            case 1: {
                int near = Math.min(15, Math.max(0, m.house(h, 0)) + upTo(4));
                for (int i = -1; i < 5; i++) {
                    due("wanted(" + h + ", " + near + ", " + i + ")", x.wanted(h, near, i), m.wanted(h, near, i));
                }
                break;
            }
            case 2: due("brook(" + h + ")", x.brook(h), m.brook(h)); break;
            case 3: due("undo()", x.undo(), m.undo()); break;
            case 4: {
                int c = any(127);
                due("cell(" + c + ")", x.cell(c), m.cell(c));
                break;
            }
            case 5:
                due("ask(" + h + ", " + v % 2 + ")", x.ask(h, v % 2), m.ask(h, v % 2));
                for (int i = -1; i < 9; i++) {
                    due("trace(" + i + ")", x.trace(i), m.trace(i));
                }
                break;
            case 6: {
                int kind = any(5);
                due("as(" + h + ", " + kind + ")", x.as(h, kind), m.as(h, kind));
                due("kind(" + h + ")", x.kind(h), m.kind(h));
                due("status()", x.status(), m.status());
                break;
            }
            default:
                for (int what = 0; what < 9; what++) {
                    due("house(" + h + ", " + what + ")", x.house(h, what), m.house(h, what));
                }
        }
    }

    private void step() {
        int h = house();
        int claim = any(15);
        switch (random.nextInt(24)) {
            case 0:
                if (random.nextInt(5) == 0) {
                    text();
                }
                break;
            case 1:
            case 2: rowStep(); break;
            case 3: talkStep(); break;
            case 4: liesStep(); break;
            case 5: {
                int k = any(1);
                due("image(" + k + ")", x.image(k), m.image(k));
                break;
            }
            case 6: {
                int k = any(1);
                due("restore(" + k + ")", x.restore(k), m.restore(k));
                break;
            }
            case 7: {
                int what = any(6);
                due("count(" + what + ")", x.count(what), m.count(what));
                break;
            }
            case 8:
            case 9:
            case 10:
            case 11:
            case 12:
            case 13: due("say(" + h + ", " + claim + ")", x.say(h, claim), m.say(h, claim)); break;
            default: fieldStep();
        }
    }
}
