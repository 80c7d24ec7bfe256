/** Promises 14 to 19: lies, guess, wanted, brook, image, restore. */
public final class ForetoldTest {
    private static final String TWO = "facts 0 15;house hut 0 0 1 1;house inn 2 0 1 1;";

    public static void main(String[] args) {
        sets();
        standsThatAreNone();
        guesses();
        refused();
        nothingChanges();
        wanting();
        wantedPastTheBrook();
        brooks();
        images();
        Check.end();
    }

    private static void sets() {
        LieSlides x = Check.with(TWO);
        Check.fill(x, 0, 0, 0, 0, 0, 1, 9);
        Check.fill(x, 1, 2, 2, 4, 77);
        // two of three lies of 0 take it to 2 and push 1 to 3, if 1 has not gone yet
        Check.due("how many", x.lies(0, 4, 1, -1), 3);
        Check.due("the least", x.lies(0, 4, 1, 0), 11);
        Check.due("the next", x.lies(0, 4, 1, 1), 13);
        Check.due("the last", x.lies(0, 4, 1, 2), 14);
        Check.due("no more", x.lies(0, 4, 1, 3), LieSlides.NONE);
        Check.due("far more", x.lies(0, 4, 1, Integer.MAX_VALUE), LieSlides.NONE);
        Check.due("of fewer sayings", x.lies(0, 3, 1, -1), 0);
        Check.due("status 0", x.status(), 0);
        x.set(1, 1, 16 + 4);
        Check.due("an X that is none", x.lies(0, 4, 1, -1), 0);
        x.set(1, 1, -12);
        Check.due("an X below 0", x.lies(0, 4, 1, -1), 0);
        Check.fill(x, 2, 0, 0, 2);
        Check.due("as all stands: no lie", x.lies(0, 1, 2, 0), 0);
        Check.fill(x, 3, 0, 1, 1);
        Check.due("one row for both", x.lies(3, 2, 3, -1), 0);
        LieSlides y = Check.with("facts 0 8;house hut 7 0 1 1;");
        Check.fill(y, 0, 0, 0, 0, 0, 0, 0, 0, 0, 0);
        Check.fill(y, 1, 0, 15);
        Check.due("what is drowned slides on", y.lies(0, 8, 1, 0), 255);
        Check.due("all of eight", y.lies(0, 8, 1, -1), 1);
    }

    /** An X beyond the field is not the X of the same lowest bits, nor lends bits to the next house. */
    private static void standsThatAreNone() {
        LieSlides x = Check.with("facts 0 15;house hut 1 0 1 1;house hut 3 1 1 1;house hut 0 2 1 1;house hut 0 3 1 1;"
                + "house hut 0 4 1 1;house hut 3 5 1 1;");
        x.row(0, 0, 1);
        Check.fill(x, 1, 2, 1, 3, 0, 0, 0, 3);
        Check.due("as it stands", x.lies(0, 1, 1, -1), 1);
        int[][] wrong = {{0, 16}, {0, 17}, {1, 19}, {2, 16}, {4, 16}, {0, -15}, {5, 19}, {5, 4099}, {5, 3 - 4096}, {0, 257},
            {5, Integer.MIN_VALUE + 3}, {0, Integer.MIN_VALUE + 1}};
        int[] right = {1, 3, 0, 0, 0, 3};
        for (int[] w : wrong) {
            x.set(1, w[0], w[1]);
            Check.due("X " + w[1] + " of " + w[0], x.lies(0, 1, 1, -1), 0);
            Check.due("fewest by X " + w[1] + " of " + w[0], x.guess(0, 1, 1, 0), LieSlides.NONE);
            x.set(1, w[0], right[w[0]]);
        }
        Check.due("right again", x.lies(0, 1, 1, 0), 0);
    }

    /** The fewest lies are not always the least set: by waiting, 0 pushes 1 itself. */
    private static void fewestIsNotTheLeast() {
        LieSlides x = Check.with("facts 0 15;house hut 2 0 2 1;house hut 4 0 1 1;");
        Check.fill(x, 0, 0, 1, 1, 0, 1);
        Check.fill(x, 1, 0, 3, 6);
        int[] sets = {7, 12, 13, 14, LieSlides.NONE};
        for (int i = 0; i < sets.length; i++) {
            Check.due("set " + i, x.lies(0, 4, 1, i), sets[i]);
        }
        Check.due("fewest", x.guess(0, 4, 1, 0), 12);
        Check.due("sure", x.guess(0, 4, 1, 1), 4);
        Check.due("question", x.guess(0, 4, 1, 2), 0);
    }

    private static void guesses() {
        fewestIsNotTheLeast();
        LieSlides x = Check.with(TWO);
        Check.fill(x, 0, 0, 0, 0, 0, 1);
        Check.fill(x, 1, 0, 2, 4);
        Check.due("fewest, of several the least", x.guess(0, 4, 1, 0), 11);
        Check.due("sure", x.guess(0, 4, 1, 1), 8);
        Check.due("question", x.guess(0, 4, 1, 2), 0);
        // by a wall each lie more is one that slides nothing
        LieSlides y = Check.with("facts 0 15;wall 2 0;house hut 0 0 1 1;house hut 0 1 1 1;");
        Check.fill(y, 0, 0, 0, 1, 0, 0);
        Check.fill(y, 1, 0, 1, 1);
        Check.due("sets", y.lies(0, 4, 1, -1), 7);
        Check.due("the first", y.lies(0, 4, 1, 0), 3);
        Check.due("fewest", y.guess(0, 4, 1, 0), 3);
        Check.due("sure", y.guess(0, 4, 1, 1), 2);
        Check.due("question: 4 and 3, the first", y.guess(0, 4, 1, 2), 0);
        Check.fill(y, 0, 0, 1, 0, 0, 0, 0, 0, 0, 0);
        Check.fill(y, 1, 0, 1, 0);
        Check.due("sets", y.lies(0, 8, 1, -1), 127);
        Check.due("question: not the first saying", y.guess(0, 8, 1, 2), 1);
        Check.due("sure: none", y.guess(0, 8, 1, 1), 0);
        Check.due("fewest that are one", y.guess(0, 8, 1, 0), 2);
        Check.fill(y, 1, 0, 0, 1);
        Check.due("one set: no question", y.guess(0, 8, 1, 2), LieSlides.NONE);
        Check.due("one set: sure", y.guess(0, 8, 1, 1), 1);
        Check.fill(y, 1, 0, 5, 1);
        for (int what = 0; what < 3; what++) {
            Check.due("no set: " + what, y.guess(0, 8, 1, what), LieSlides.NONE);
        }
        // 0 pushes 1 and 2, unless these have gone ahead
        LieSlides z = Check.with("facts 0 15;house hut 0 0 1 1;house hut 1 0 1 1;house hut 2 0 1 1;");
        Check.fill(z, 0, 0, 2, 1, 0, 0);
        Check.fill(z, 1, 0, 1, 2, 3);
        Check.due("the least set", z.lies(0, 4, 1, 0), 4);
        Check.fill(z, 0, 0, 2, 1, 0, 2, 0);
        Check.fill(z, 1, 0, 1, 2, 4);
        int[] sets = {12, 13, 14, 15, 25, 26, 27, LieSlides.NONE};
        for (int i = 0; i < sets.length; i++) {
            Check.due("set " + i, z.lies(0, 5, 1, i), sets[i]);
        }
        Check.due("fewest", z.guess(0, 5, 1, 0), 12);
        Check.due("sure", z.guess(0, 5, 1, 1), 8);
        Check.due("question: 4 and 3 by the first", z.guess(0, 5, 1, 2), 0);
        Check.fill(z, 0, 0, 2, 1, 0, 0);
        Check.fill(z, 1, 0, 0, 1, 3);
        Check.due("sure one", z.guess(0, 4, 1, 1), 1);
    }

    private static void refused() {
        LieSlides n = new LieSlides();
        Check.due("no field, all wrong", n.lies(9, 0, 9, -5), LieSlides.STATE);
        Check.due("no field, all wrong", n.guess(9, 0, 9, -5), LieSlides.STATE);
        LieSlides x = Check.with(TWO);
        int[][] bad = {{8, 1, 1, 0}, {-1, 1, 1, 0}, {0, 0, 1, 0}, {0, 9, 1, 0}, {0, -1, 1, 0}, {0, 1, 8, 0}, {0, 1, -1, 0}};
        for (int[] b : bad) {
            Check.due("lies BAD", x.lies(b[0], b[1], b[2], b[3]), LieSlides.BAD);
            Check.due("guess BAD", x.guess(b[0], b[1], b[2], b[3]), LieSlides.BAD);
        }
        Check.due("i -2", x.lies(0, 1, 1, -2), LieSlides.BAD);
        Check.due("what -1", x.guess(0, 1, 1, -1), LieSlides.BAD);
        Check.due("what 3", x.guess(0, 1, 1, 3), LieSlides.BAD);
        Check.due("BAD leaves status", x.status(), 0);
        Check.due("both missing", x.lies(0, 1, 1, 0), Check.NULL_ROW);
        Check.due("status NULL", x.status(), 1);
        Check.fill(x, 0, 0, 0, 2, -1);
        Check.due("stands missing ahead of places", x.guess(0, 8, 1, 0), Check.NULL_ROW);
        Check.due("said missing", x.lies(1, 1, 0, 0), Check.NULL_ROW);
        Check.fill(x, 1, 0, 0);
        Check.due("said is short", x.lies(0, 4, 1, 0), Check.PLACE);
        Check.due("status PLACE", x.status(), 2);
        Check.due("stands is short, ahead of an item", x.lies(0, 2, 1, 0), Check.PLACE);
        Check.fill(x, 1, 0, 0, 2);
        Check.due("fill sets status", x.status(), 0);
        x.drop(5);
        Check.due("an item that is no house", x.lies(0, 2, 1, 0), LieSlides.BAD);
        Check.due("an item that is no house", x.guess(0, 3, 1, 0), LieSlides.BAD);
        Check.due("BAD leaves status", x.status(), 1);
        Check.due("ahead of it all is right", x.lies(0, 1, 1, -1), 1);
        Check.due("status 0", x.status(), 0);
        Check.fill(x, 0, 0, -1);
        Check.due("an item below 0", x.guess(0, 1, 1, 0), LieSlides.BAD);
    }

    private static void nothingChanges() {
        LieSlides x = Check.with(TWO);
        x.say(0, 1);
        Check.fill(x, 0, 0, 0, 1);
        Check.fill(x, 1, 0, 2, 3);
        x.lies(0, 2, 1, -1);
        x.guess(0, 2, 1, 0);
        x.wanted(1, 6, -1);
        x.brook(0);
        Check.dueAll("stands", Check.xs(x), 1, 2);
        Check.due("lies", x.count(4), 1);
        Check.due("sayings", x.count(3), 1);
    }

    private static void dueWanted(LieSlides x, int house, int at, int... liars) {
        Check.due("wanted(" + house + ", " + at + ", -1)", x.wanted(house, at, -1), liars.length);
        for (int k = 0; k < liars.length; k++) {
            Check.due("wanted(" + house + ", " + at + ", " + k + ")", x.wanted(house, at, k), liars[k]);
        }
        Check.due("no more", x.wanted(house, at, liars.length), LieSlides.NONE);
    }

    private static void wanting() {
        LieSlides x = Check.with("facts 0 15;wall 9 1;house hut 3 0 1 1;house inn 2 0 1 2;house inn 5 1 1 1;house hut 8 1 1 1;");
        dueWanted(x, 0, 3);
        dueWanted(x, 0, 0);
        dueWanted(x, 0, 7, 0, 0, 0, 0);
        dueWanted(x, 1, 4, 1, 1);
        dueWanted(x, 2, 7, 2, 2);
        Check.due("a wall", x.wanted(3, 9, -1), LieSlides.NONE);
        Check.due("a wall", x.wanted(3, 9, 0), LieSlides.NONE);
        Check.due("more than four", x.wanted(0, 8, -1), LieSlides.NONE);
        Check.due("x 15", x.wanted(0, 15, -1), LieSlides.NONE);
        Check.due("x 16", x.wanted(0, 16, -1), LieSlides.BAD);
        Check.due("x -1", x.wanted(0, -1, -1), LieSlides.BAD);
        Check.due("k -2", x.wanted(0, 3, -2), LieSlides.BAD);
        Check.due("house 4", x.wanted(4, 3, -1), LieSlides.BAD);
        Check.due("house -1", x.wanted(-1, 3, -1), LieSlides.BAD);
        Check.due("k most", x.wanted(0, 5, Integer.MAX_VALUE), LieSlides.NONE);
        // the first row by numbers: the one west pushes, as long as it can
        LieSlides y = Check.with("facts 0 15;wall 3 1;house hut 0 0 2 2;house inn 2 0 1 1;");
        dueWanted(y, 1, 5, 0, 1, 1);
        LieSlides z = Check.with("facts 0 15;house inn 2 0 1 1;house hut 0 0 2 2;");
        dueWanted(z, 0, 5, 0, 0, 0);
        LieSlides w = Check.with("facts 0 15;house judge 0 5 1 1;house inn 2 0 1 1;house hut 1 0 1 1;");
        dueWanted(w, 1, 4, 1, 1);
    }

    private static void wantedPastTheBrook() {
        // 1 is drowned by its first lie; then only 0 can push it
        LieSlides x = Check.with("facts 0 8;house hut 4 0 3 1;house inn 7 0 1 1;");
        dueWanted(x, 1, 8, 0);
        Check.due("0 is drowned by two lies", x.wanted(1, 9, -1), 2);
        Check.due("no one can push further", x.wanted(1, 10, -1), LieSlides.NONE);
        LieSlides y = Check.with("facts 0 8;house inn 7 0 1 1;house hut 5 0 1 1;");
        Check.due("its own lie, then two of 1, the latter of which pushes", y.wanted(0, 9, -1), 3);
        dueWanted(y, 0, 8, 0);
        dueWanted(y, 0, 9, 1, 1, 1);
        LieSlides z = Check.with("facts 0 8;house inn 9 0 1 1;house hut 5 0 1 1;");
        Check.due("a drowned one does not lie", z.wanted(0, 10, -1), LieSlides.NONE);
        LieSlides w = Check.with("facts 0 8;house inn 9 0 1 1;house hut 6 0 2 1;");
        Check.due("pushed no more, since the pusher is drowned", w.wanted(0, 10, -1), LieSlides.NONE);
        LieSlides v = Check.with("facts 0 8;house inn 8 0 1 1;house hut 6 0 2 1;");
        dueWanted(v, 0, 9, 1);
    }

    private static void brooks() {
        LieSlides x = Check.with("facts 0 8;wall 15 7;house hut 0 0 1 1;house inn 5 1 3 1;house hut 9 2 1 1;house hut 0 7 1 1;"
                + "house mill 12 7 3 1;house judge 4 4 4 3;");
        int[] due = {8, 1, 0, 8, 0, 1};
        for (int h = 0; h < 6; h++) {
            Check.due("brook(" + h + ")", x.brook(h), due[h]);
        }
        Check.due("brook(6)", x.brook(6), LieSlides.BAD);
        Check.due("brook(-1)", x.brook(-1), LieSlides.BAD);
        LieSlides y = Check.with("facts 0 8;wall 7 0;wall 8 1;house hut 0 0 1 1;house hut 0 1 1 1;house hut 4 2 2 1;"
                + "house inn 8 2 4 1;house judge 12 2 4 1;house hut 6 3 2 1;");
        Check.due("a wall ahead of the brook", y.brook(0), LieSlides.NONE);
        Check.due("a wall at the brook", y.brook(1), LieSlides.NONE);
        Check.due("what it pushes stands at the end", y.brook(2), LieSlides.NONE);
        Check.due("a yard", y.brook(5), 1);
        LieSlides z = Check.with("facts 0 15;house hut 0 0 1 1;house hut 14 0 1 1;");
        Check.due("it would be the fifteenth, but the end stops", z.brook(0), LieSlides.NONE);
        LieSlides w = Check.with("facts 0 15;house hut 0 0 1 1;");
        Check.due("alone to X 15", w.brook(0), 15);
    }

    private static void images() {
        LieSlides x = new LieSlides();
        Check.due("image 2", x.image(2), LieSlides.BAD);
        Check.due("image -1", x.image(-1), LieSlides.BAD);
        Check.due("image without a field", x.image(0), LieSlides.STATE);
        Check.due("restore 2", x.restore(2), LieSlides.BAD);
        Check.due("restore -1", x.restore(-1), LieSlides.BAD);
        Check.due("restore none", x.restore(0), LieSlides.STATE);
        Check.read(x, "facts 1 12;wall 9 7;path 1 0 5;house shop 0 0 1 1;house inn 4 0 2 2;");
        x.say(0, 0);
        Check.due("image 1", x.image(1), 1);
        Check.due("image 0 is none yet", x.restore(0), LieSlides.STATE);
        Check.due("image leaves sayings", x.count(3), 1);
        x.say(0, 0);
        x.say(1, 0);
        Check.due("image 0", x.image(0), 1);
        Check.read(x, "facts 0 8;house hut 15 7 1 1;");
        Check.due("restore 1", x.restore(1), 1);
        Check.due("houses", x.count(1), 2);
        Check.due("walls", x.count(2), 1);
        Check.due("no sayings", x.count(3), 0);
        Check.due("undo", x.undo(), LieSlides.STATE);
        Check.due("lies", x.count(4), 1);
        Check.due("kind", x.kind(0), 4);
        Check.dueAll("stands", Check.xs(x), 1, 4);
        Check.due("path", x.cell(16), -2);
        Check.due("brook", x.cell(11), -4);
        Check.due("facts", x.say(0, 1), 0);
        Check.due("a lie", x.say(0, 0), 1);
        Check.due("the image is not the field", x.restore(1), 1);
        Check.dueAll("stands", Check.xs(x), 1, 4);
        Check.due("restore 0", x.restore(0), 1);
        Check.dueAll("stands", Check.xs(x), 2, 5);
        Check.due("lies", x.count(4), 3);
        Check.due("lies in 1", x.house(1, 8), 1);
        x.image(1);
        x.say(1, 0);
        x.restore(1);
        Check.dueAll("an image in place of another", Check.xs(x), 2, 5);
        x.say(1, 0);
        Check.due("a refused restore", x.restore(3), LieSlides.BAD);
        Check.due("leaves sayings", x.count(3), 1);
    }
}
