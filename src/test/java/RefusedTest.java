import java.util.function.ToIntFunction;

/**
 * Each refusal and finding of each promise, at the first number that is not allowed, on both sides where there are two, in
 * the order in which the promise tells them: the answer that is due, the status that is due, and that nothing else changed.
 * To see the latter, the call is made on one of two objects of the same past, and all that both can tell is compared.
 */
public final class RefusedTest {
    private static final int LEAST = Integer.MIN_VALUE, MOST = Integer.MAX_VALUE;
    private static final int BAD = LieSlides.BAD, STATE = LieSlides.STATE, FULL = LieSlides.FULL, NONE = LieSlides.NONE;
    /** 2 is drowned. */
    private static final String TEXT = "facts 5 9;wall 12 0;path 2 0 9;house inn 1 0 2 2;house hut 4 0 1 1;"
            + "house mill 9 5 1 1;house shop 5 4 2 3;";
    private static final int HOUSES = 4;

    public static void main(String[] args) {
        row();
        set();
        copy();
        drop();
        feed();
        say();
        talk();
        undo();
        house();
        cell();
        for (int what = 0; what < 2; what++) {
            foretold(what == 1);
        }
        wanted();
        brook();
        images();
        kinds();
        asks();
        count();
        withoutField();
        Check.end();
    }

    /** Rows 0 bytes, 1 shorts, 2 ints, 3 of no items, 5 bytes; 4, 6, 7 are missing. An image, sayings, a trace, a tape. */
    private static LieSlides past() {
        LieSlides x = new LieSlides();
        Check.read(x, "facts 256 8;");
        Check.read(x, TEXT);
        Check.fill(x, 0, 0, 1, 0, 3);
        Check.fill(x, 1, 1, 5, 4, 6);
        Check.fill(x, 2, 2, 8, 7, 2);
        x.row(3, 0, 0);
        Check.fill(x, 5, 0, 1, 4, 8, 5, 7);
        x.say(0, 0);
        x.image(0);
        x.say(1, 2);
        x.say(0, 1);
        x.ask(1, 1);
        Check.feed(x, "facts 1 8;house h");
        return x;
    }

    private static LieSlides withoutAField() {
        LieSlides x = new LieSlides();
        Check.fill(x, 0, 0, 1, 0, 3);
        Check.feed(x, "facts 1 8;house h");
        return x;
    }

    private static void due(String what, LieSlides x, LieSlides twin, ToIntFunction<LieSlides> call, int answer) {
        int ahead = x.status();
        Check.due(what, call.applyAsInt(x), answer);
        boolean finding = answer <= -1000011 && answer >= -1000015;
        Check.due("status behind " + what, x.status(), finding ? -1000010 - answer : ahead);
        String got = Probe.of(x);
        String want = Probe.of(twin);
        if (!got.equals(want)) {
            Check.due("nothing has changed by " + what + "\n  " + got + "\n  " + want + "\n ", 1, 0);
        }
    }

    /** With a finding ahead, and with none, so that a status that is set, or cleared, is seen. */
    private static void refused(String what, ToIntFunction<LieSlides> call, int answer) {
        LieSlides x = past();
        Check.due("no finding ahead", x.status(), 0);
        due(what, x, past(), call, answer);
        LieSlides y = past();
        y.as(0, answer == Check.KIND ? 2 : 1);
        due(what + ", behind a finding", y, past(), call, answer);
        LieSlides z = past();
        z.set(0, 40, 0);
        due(what + ", behind another", z, past(), call, answer);
    }

    private static void refusedWithoutField(String what, ToIntFunction<LieSlides> call, int answer) {
        due(what + " without a field", withoutAField(), withoutAField(), call, answer);
    }

    /** "BAD: ROW, LANE, n above 40; SIZE." */
    private static void row() {
        refused("row(-1, 0, 1)", x -> x.row(-1, 0, 1), BAD);
        refused("row(8, 0, 1)", x -> x.row(8, 0, 1), BAD);
        refused("row(least, 0, 1)", x -> x.row(LEAST, 0, 1), BAD);
        refused("row(most, 0, 1)", x -> x.row(MOST, 0, 1), BAD);
        refused("row(0, -1, 1)", x -> x.row(0, -1, 1), BAD);
        refused("row(0, 3, 1)", x -> x.row(0, 3, 1), BAD);
        refused("row(0, least, 1)", x -> x.row(0, LEAST, 1), BAD);
        refused("row(0, most, 1)", x -> x.row(0, MOST, 1), BAD);
        refused("row(0, 0, 41)", x -> x.row(0, 0, 41), BAD);
        refused("row(4, 2, 41)", x -> x.row(4, 2, 41), BAD);
        refused("row(0, 0, most)", x -> x.row(0, 0, MOST), BAD);
        refused("row(0, 0, -1)", x -> x.row(0, 0, -1), Check.SIZE);
        refused("row(4, 2, -1)", x -> x.row(4, 2, -1), Check.SIZE);
        refused("row(2, 0, least)", x -> x.row(2, 0, LEAST), Check.SIZE);
        refused("row(8, 0, -1): BAD ahead of SIZE", x -> x.row(8, 0, -1), BAD);
        refused("row(0, 3, -1): BAD ahead of SIZE", x -> x.row(0, 3, -1), BAD);
    }

    /** "BAD: ROW; NULL; PLACE." */
    private static void set() {
        refused("set(-1, 0, 2)", x -> x.set(-1, 0, 2), BAD);
        refused("set(8, 0, 2)", x -> x.set(8, 0, 2), BAD);
        refused("set(least, 0, 2)", x -> x.set(LEAST, 0, 2), BAD);
        refused("set(most, 0, 2)", x -> x.set(MOST, 0, 2), BAD);
        refused("set(8, -1, 2): BAD ahead of PLACE", x -> x.set(8, -1, 2), BAD);
        refused("set(4, 0, 2)", x -> x.set(4, 0, 2), Check.NULL_ROW);
        refused("set(4, -1, 2): NULL ahead of PLACE", x -> x.set(4, -1, 2), Check.NULL_ROW);
        refused("set(0, -1, 2)", x -> x.set(0, -1, 2), Check.PLACE);
        refused("set(1, -1, 2)", x -> x.set(1, -1, 2), Check.PLACE);
        refused("set(0, 3, 2)", x -> x.set(0, 3, 2), Check.PLACE);
        refused("set(2, 3, 2)", x -> x.set(2, 3, 2), Check.PLACE);
        refused("set(3, 0, 2): a row of no items", x -> x.set(3, 0, 2), Check.PLACE);
        refused("set(0, 40, 2): the first item of the next row", x -> x.set(0, 40, 2), Check.PLACE);
        refused("set(0, least, 2)", x -> x.set(0, LEAST, 2), Check.PLACE);
        refused("set(0, most, 2)", x -> x.set(0, MOST, 2), Check.PLACE);
    }

    /** "BAD: ROWS; NULL; STORE; PLACE (i, j, n below 0, or beyond an end)." */
    private static void copy() {
        refused("copy(-1, 0, 0, 0, 1)", x -> x.copy(-1, 0, 0, 0, 1), BAD);
        refused("copy(8, 0, 0, 0, 1)", x -> x.copy(8, 0, 0, 0, 1), BAD);
        refused("copy(0, 0, -1, 0, 1)", x -> x.copy(0, 0, -1, 0, 1), BAD);
        refused("copy(0, 0, 8, 0, 1)", x -> x.copy(0, 0, 8, 0, 1), BAD);
        refused("copy(least, 0, most, 0, 1)", x -> x.copy(LEAST, 0, MOST, 0, 1), BAD);
        refused("copy(4, 0, 8, 0, 1): BAD ahead of NULL", x -> x.copy(4, 0, 8, 0, 1), BAD);
        refused("copy(8, 0, 4, 0, 1): BAD ahead of NULL", x -> x.copy(8, 0, 4, 0, 1), BAD);
        refused("copy(0, -1, 8, 0, 1): BAD ahead of PLACE", x -> x.copy(0, -1, 8, 0, 1), BAD);
        refused("copy(4, 0, 0, 0, 1)", x -> x.copy(4, 0, 0, 0, 1), Check.NULL_ROW);
        refused("copy(0, 0, 4, 0, 1)", x -> x.copy(0, 0, 4, 0, 1), Check.NULL_ROW);
        refused("copy(4, 0, 4, 0, 0)", x -> x.copy(4, 0, 4, 0, 0), Check.NULL_ROW);
        refused("copy(1, 0, 4, 0, 0): a missing row has no lane", x -> x.copy(1, 0, 4, 0, 0), Check.NULL_ROW);
        refused("copy(4, -1, 0, 0, 1): NULL ahead of PLACE", x -> x.copy(4, -1, 0, 0, 1), Check.NULL_ROW);
        refused("copy(0, 0, 4, 0, -1): NULL ahead of PLACE", x -> x.copy(0, 0, 4, 0, -1), Check.NULL_ROW);
        refused("copy(0, 0, 1, 0, 1)", x -> x.copy(0, 0, 1, 0, 1), Check.STORE);
        refused("copy(1, 0, 0, 0, 1)", x -> x.copy(1, 0, 0, 0, 1), Check.STORE);
        refused("copy(0, 0, 2, 0, 1)", x -> x.copy(0, 0, 2, 0, 1), Check.STORE);
        refused("copy(2, 0, 1, 0, 1)", x -> x.copy(2, 0, 1, 0, 1), Check.STORE);
        refused("copy(0, 0, 1, 0, 0): also of no items", x -> x.copy(0, 0, 1, 0, 0), Check.STORE);
        refused("copy(0, -1, 1, 0, 1): STORE ahead of PLACE", x -> x.copy(0, -1, 1, 0, 1), Check.STORE);
        refused("copy(0, 0, 1, 0, -1): STORE ahead of PLACE", x -> x.copy(0, 0, 1, 0, -1), Check.STORE);
        refused("copy(3, 0, 1, 0, 1): STORE ahead of PLACE", x -> x.copy(3, 0, 1, 0, 1), Check.STORE);
        copyPlaces();
    }

    private static void copyPlaces() {
        refused("copy(0, -1, 5, 0, 1)", x -> x.copy(0, -1, 5, 0, 1), Check.PLACE);
        refused("copy(0, 0, 5, -1, 1)", x -> x.copy(0, 0, 5, -1, 1), Check.PLACE);
        refused("copy(0, 0, 5, 0, -1)", x -> x.copy(0, 0, 5, 0, -1), Check.PLACE);
        refused("copy(0, 1, 5, 1, -1)", x -> x.copy(0, 1, 5, 1, -1), Check.PLACE);
        refused("copy(0, -1, 5, 0, 0): none, from below 0", x -> x.copy(0, -1, 5, 0, 0), Check.PLACE);
        refused("copy(0, 0, 5, -1, 0): none, to below 0", x -> x.copy(0, 0, 5, -1, 0), Check.PLACE);
        refused("copy(0, 0, 5, 0, 4): beyond the end of a", x -> x.copy(0, 0, 5, 0, 4), Check.PLACE);
        refused("copy(0, 3, 5, 0, 1): beyond the end of a", x -> x.copy(0, 3, 5, 0, 1), Check.PLACE);
        refused("copy(5, 0, 0, 0, 4): beyond the end of b", x -> x.copy(5, 0, 0, 0, 4), Check.PLACE);
        refused("copy(5, 0, 0, 3, 1): beyond the end of b", x -> x.copy(5, 0, 0, 3, 1), Check.PLACE);
        refused("copy(0, 4, 5, 0, 0): none, from beyond the end", x -> x.copy(0, 4, 5, 0, 0), Check.PLACE);
        refused("copy(0, 0, 5, 6, 0): none, to beyond the end", x -> x.copy(0, 0, 5, 6, 0), Check.PLACE);
        refused("copy(3, 0, 3, 0, 1): a row of no items", x -> x.copy(3, 0, 3, 0, 1), Check.PLACE);
        refused("copy(0, most, 5, 0, 1)", x -> x.copy(0, MOST, 5, 0, 1), Check.PLACE);
        refused("copy(0, 0, 5, most, 1)", x -> x.copy(0, 0, 5, MOST, 1), Check.PLACE);
        refused("copy(0, 1, 5, 1, most)", x -> x.copy(0, 1, 5, 1, MOST), Check.PLACE);
        refused("copy(0, most, 5, most, most)", x -> x.copy(0, MOST, 5, MOST, MOST), Check.PLACE);
        refused("copy(0, least, 5, least, least)", x -> x.copy(0, LEAST, 5, LEAST, LEAST), Check.PLACE);
        refused("copy(0, most, 5, most, least)", x -> x.copy(0, MOST, 5, MOST, LEAST), Check.PLACE);
    }

    /** "BAD; NULL." */
    private static void drop() {
        refused("drop(-1)", x -> x.drop(-1), BAD);
        refused("drop(8)", x -> x.drop(8), BAD);
        refused("drop(least)", x -> x.drop(LEAST), BAD);
        refused("drop(most)", x -> x.drop(MOST), BAD);
        refused("drop(4)", x -> x.drop(4), Check.NULL_ROW);
        refused("drop(7)", x -> x.drop(7), Check.NULL_ROW);
    }

    private static LieSlides fullTape(int bytes) {
        LieSlides x = withoutAField();
        for (int at = 17; at < bytes; at += 8) {
            x.feed(0x3131313131313131L, Math.min(8, bytes - at));
        }
        return x;
    }

    /** "BAD: n; FULL: none comes." The tape has at most 400 bytes. */
    private static void feed() {
        refused("feed(.., 0)", x -> x.feed(0x41, 0), BAD);
        refused("feed(.., 9)", x -> x.feed(0x41, 9), BAD);
        refused("feed(.., -1)", x -> x.feed(0x41, -1), BAD);
        refused("feed(.., least)", x -> x.feed(0x41, LEAST), BAD);
        refused("feed(.., most)", x -> x.feed(0x41, MOST), BAD);
        for (int room = 0; room < 8; room++) {
            int bytes = 400 - room;
            int tooMany = room + 1;
            Check.due("bytes on the tape", fullTape(bytes).count(6), bytes);
            due("feed(.., " + tooMany + ") behind " + bytes, fullTape(bytes), fullTape(bytes),
                    x -> x.feed(0x4141414141414141L, tooMany), FULL);
        }
        due("feed(.., 8) behind 400", fullTape(400), fullTape(400), x -> x.feed(-1, 8), FULL);
        due("feed(.., 9) behind 400: BAD ahead of FULL", fullTape(400), fullTape(400), x -> x.feed(-1, 9), BAD);
        due("feed(.., 0) behind 400: BAD ahead of FULL", fullTape(400), fullTape(400), x -> x.feed(-1, 0), BAD);
    }

    /** "BAD: HOUSE, CLAIM 0 to 15; STATE: it is DROWNED." */
    private static void say() {
        refused("say(-1, 0)", x -> x.say(-1, 0), BAD);
        refused("say(4, 0)", x -> x.say(HOUSES, 0), BAD);
        refused("say(least, 0)", x -> x.say(LEAST, 0), BAD);
        refused("say(most, 0)", x -> x.say(MOST, 0), BAD);
        refused("say(0, -1)", x -> x.say(0, -1), BAD);
        refused("say(0, 16)", x -> x.say(0, 16), BAD);
        refused("say(0, least)", x -> x.say(0, LEAST), BAD);
        refused("say(0, most)", x -> x.say(0, MOST), BAD);
        refused("say(2, 0), a lie of one drowned", x -> x.say(2, 0), STATE);
        refused("say(2, 1), a truth of one drowned", x -> x.say(2, 1), STATE);
        refused("say(2, 16): BAD ahead of STATE", x -> x.say(2, 16), BAD);
        refused("say(2, -1): BAD ahead of STATE", x -> x.say(2, -1), BAD);
    }

    private static LieSlides talkers() {
        LieSlides x = past();
        x.row(5, 2, 22);
        for (int k = 0; k < 22; k++) {
            x.set(5, k, 2);
        }
        return x;
    }

    private static LieSlides talkersWith(int place, int item) {
        LieSlides x = talkers();
        x.set(5, place, item);
        return x;
    }

    private static void refusedTalk(String what, int place, int item, int i, int n, int answer) {
        due(what, talkersWith(place, item), talkersWith(place, item), x -> x.talk(5, i, n), answer);
    }

    /** "BAD: ROW, n; STATE: no FIELD (ahead of BAD); NULL; PLACE; then BAD: an ITEM that is none." */
    private static void talk() {
        refused("talk(-1, 0, 1)", x -> x.talk(-1, 0, 1), BAD);
        refused("talk(8, 0, 1)", x -> x.talk(8, 0, 1), BAD);
        refused("talk(least, 0, 1)", x -> x.talk(LEAST, 0, 1), BAD);
        refused("talk(most, 0, 1)", x -> x.talk(MOST, 0, 1), BAD);
        refused("talk(0, 0, 0)", x -> x.talk(0, 0, 0), BAD);
        refused("talk(0, 0, -1)", x -> x.talk(0, 0, -1), BAD);
        refused("talk(0, 0, least)", x -> x.talk(0, 0, LEAST), BAD);
        refused("talk(0, 0, most)", x -> x.talk(0, 0, MOST), BAD);
        refused("talk(4, 0, 21): BAD ahead of NULL", x -> x.talk(4, 0, 21), BAD);
        refused("talk(0, -1, 0): BAD ahead of PLACE", x -> x.talk(0, -1, 0), BAD);
        refusedTalk("talk of 21 of 22", 0, 2, 0, 21, BAD);
        refused("talk(4, 0, 1)", x -> x.talk(4, 0, 1), Check.NULL_ROW);
        refused("talk(4, -1, 20): NULL ahead of PLACE", x -> x.talk(4, -1, 20), Check.NULL_ROW);
        refused("talk(0, -1, 1)", x -> x.talk(0, -1, 1), Check.PLACE);
        refused("talk(0, 0, 4)", x -> x.talk(0, 0, 4), Check.PLACE);
        refused("talk(0, 3, 1)", x -> x.talk(0, 3, 1), Check.PLACE);
        refused("talk(3, 0, 1): a row of no items", x -> x.talk(3, 0, 1), Check.PLACE);
        refused("talk(0, least, 1)", x -> x.talk(0, LEAST, 1), Check.PLACE);
        refused("talk(0, most, 20)", x -> x.talk(0, MOST, 20), Check.PLACE);
        refusedTalk("PLACE ahead of an item that is none", 21, -1, 21, 2, Check.PLACE);
        refusedTalk("an item below 0, the first", 0, -1, 0, 3, BAD);
        refusedTalk("an item below 0, the last", 19, -1, 0, 20, BAD);
        refusedTalk("an item of the first house that is none, the last", 21, 16 * HOUSES, 2, 20, BAD);
        refusedTalk("an item of the first house that is none, alone", 4, 16 * HOUSES, 4, 1, BAD);
        refusedTalk("the least item", 4, LEAST, 4, 1, BAD);
        refusedTalk("the greatest item", 4, MOST, 4, 1, BAD);
        refusedTalk("-16: its house is below 0", 4, -16, 4, 1, BAD);
        refusedTalk("-15: no house 0 by a cut towards 0", 4, -15, 4, 1, BAD);
        // a byte of 128 is -128: there is no house of it
        due("a byte", bytesOf(128), bytesOf(128), x -> x.talk(0, 0, 1), BAD);
    }

    private static LieSlides bytesOf(int v) {
        LieSlides x = past();
        x.set(0, 0, v);
        return x;
    }

    private static LieSlides nothingSaid() {
        LieSlides x = past();
        for (int k = 0; k < 3; k++) {
            x.undo();
        }
        return x;
    }

    /** "STATE: none." */
    private static void undo() {
        Check.due("three sayings are kept", past().count(3), 3);
        due("undo of none", nothingSaid(), nothingSaid(), x -> x.undo(), STATE);
        refusedWithoutField("undo", x -> x.undo(), STATE);
    }

    private static void house() {
        refused("house(-1, 0)", x -> x.house(-1, 0), BAD);
        refused("house(4, 0)", x -> x.house(HOUSES, 0), BAD);
        refused("house(least, 0)", x -> x.house(LEAST, 0), BAD);
        refused("house(most, 0)", x -> x.house(MOST, 0), BAD);
        refused("house(0, -1)", x -> x.house(0, -1), BAD);
        refused("house(0, 9)", x -> x.house(0, 9), BAD);
        refused("house(0, least)", x -> x.house(0, LEAST), BAD);
        refused("house(0, most)", x -> x.house(0, MOST), BAD);
    }

    /** "BAD; STATE: no FIELD (ahead of BAD)." */
    private static void cell() {
        refused("cell(-1)", x -> x.cell(-1), BAD);
        refused("cell(128)", x -> x.cell(128), BAD);
        refused("cell(least)", x -> x.cell(LEAST), BAD);
        refused("cell(most)", x -> x.cell(MOST), BAD);
    }

    private static int foretell(boolean guess, LieSlides x, int said, int n, int stands, int i) {
        return guess ? x.guess(said, n, stands, i) : x.lies(said, n, stands, i);
    }

    private static void refusedForetold(boolean guess, int said, int n, int stands, int i, int answer) {
        String what = (guess ? "guess(" : "lies(") + said + ", " + n + ", " + stands + ", " + i + ")";
        refused(what, x -> foretell(guess, x, said, n, stands, i), answer);
    }

    private static LieSlides saidWith(int place, int item) {
        LieSlides x = past();
        x.row(2, 2, 9);
        x.set(2, place, item);
        return x;
    }

    private static void refusedSaid(boolean guess, int place, int item, int n, int answer) {
        due((guess ? "guess" : "lies") + " with " + item + " at " + place + " of " + n, saidWith(place, item),
                saidWith(place, item), x -> foretell(guess, x, 2, n, 5, 0), answer);
    }

    /** "BAD: ROWS, n, i below -1; ..; NULL (said, then stands); PLACE (likewise); then BAD: an ITEM of said .." */
    private static void foretold(boolean guess) {
        int[] noRows = {-1, 8, LEAST, MOST};
        for (int row : noRows) {
            refusedForetold(guess, row, 1, 5, 0, BAD);
            refusedForetold(guess, 0, 1, row, 0, BAD);
            refusedForetold(guess, row, 1, 4, 0, BAD);
            refusedForetold(guess, 4, 1, row, 0, BAD);
        }
        int[] noNumbers = {0, 9, -1, LEAST, MOST};
        for (int n : noNumbers) {
            refusedForetold(guess, 5, n, 5, 0, BAD);
            refusedForetold(guess, 4, n, 4, 0, BAD);
        }
        int[] noPlaces = guess ? new int[] {-1, 3, LEAST, MOST} : new int[] {-2, LEAST};
        for (int i : noPlaces) {
            refusedForetold(guess, 0, 1, 5, i, BAD);
            refusedForetold(guess, 4, 1, 4, i, BAD);
            refusedForetold(guess, 0, 4, 0, i, BAD);
        }
        refusedForetold(guess, 4, 1, 5, 0, Check.NULL_ROW);
        refusedForetold(guess, 0, 1, 4, 0, Check.NULL_ROW);
        refusedForetold(guess, 4, 8, 4, 0, Check.NULL_ROW);
        refusedForetold(guess, 3, 1, 4, 0, Check.NULL_ROW);
        refusedForetold(guess, 4, 1, 3, 0, Check.NULL_ROW);
        refusedForetold(guess, 0, 4, 5, 0, Check.PLACE);
        refusedForetold(guess, 3, 1, 5, 0, Check.PLACE);
        refusedForetold(guess, 0, 1, 2, 0, Check.PLACE);
        refusedForetold(guess, 0, 1, 3, 0, Check.PLACE);
        refusedForetold(guess, 1, 1, 2, 0, Check.PLACE);
        refusedForetold(guess, 1, 4, 5, 0, Check.PLACE);
        int[] noHouses = {-1, HOUSES, LEAST, MOST, 256, 16};
        for (int item : noHouses) {
            refusedSaid(guess, 0, item, 1, BAD);
            refusedSaid(guess, 7, item, 8, BAD);
        }
    }

    /** "BAD: X 0 to 15, k below -1, too." NONE changes nothing either. */
    private static void wanted() {
        refused("wanted(-1, 0, -1)", x -> x.wanted(-1, 0, -1), BAD);
        refused("wanted(4, 0, -1)", x -> x.wanted(HOUSES, 0, -1), BAD);
        refused("wanted(least, 0, -1)", x -> x.wanted(LEAST, 0, -1), BAD);
        refused("wanted(most, 0, -1)", x -> x.wanted(MOST, 0, -1), BAD);
        refused("wanted(0, -1, -1)", x -> x.wanted(0, -1, -1), BAD);
        refused("wanted(0, 16, -1)", x -> x.wanted(0, 16, -1), BAD);
        refused("wanted(0, least, -1)", x -> x.wanted(0, LEAST, -1), BAD);
        refused("wanted(0, most, -1)", x -> x.wanted(0, MOST, -1), BAD);
        refused("wanted(0, 0, -2)", x -> x.wanted(0, 0, -2), BAD);
        refused("wanted(0, 0, least)", x -> x.wanted(0, 0, LEAST), BAD);
        refused("wanted(0, 15, -1)", x -> x.wanted(0, 15, -1), NONE);
        refused("wanted(1, 6, 5)", x -> x.wanted(1, 6, 5), NONE);
    }

    private static void brook() {
        refused("brook(-1)", x -> x.brook(-1), BAD);
        refused("brook(4)", x -> x.brook(HOUSES), BAD);
        refused("brook(least)", x -> x.brook(LEAST), BAD);
        refused("brook(most)", x -> x.brook(MOST), BAD);
        refused("brook(2)", x -> x.brook(2), 0);
    }

    /** image: "BAD; STATE: no FIELD." restore: "BAD; STATE: none was kept." */
    private static void images() {
        int[] none = {-1, 2, LEAST, MOST};
        for (int k : none) {
            refused("image(" + k + ")", x -> x.image(k), BAD);
            refused("restore(" + k + ")", x -> x.restore(k), BAD);
            refusedWithoutField("image(" + k + "): BAD ahead of STATE", x -> x.image(k), BAD);
            refusedWithoutField("restore(" + k + "): BAD ahead of STATE", x -> x.restore(k), BAD);
        }
        refused("restore(1), of which none was kept", x -> x.restore(1), STATE);
    }

    /** kind: "BAD." as: "BAD; KIND: it is no such one." */
    private static void kinds() {
        int[] none = {-1, HOUSES, LEAST, MOST};
        for (int house : none) {
            refused("kind(" + house + ")", x -> x.kind(house), BAD);
            refused("as(" + house + ", 0)", x -> x.as(house, 0), BAD);
        }
        int[] noKinds = {-1, 6, LEAST, MOST};
        for (int kind : noKinds) {
            refused("as(0, " + kind + ")", x -> x.as(0, kind), BAD);
            refused("as(4, " + kind + ")", x -> x.as(HOUSES, kind), BAD);
        }
        refused("as(0, 3)", x -> x.as(0, 3), Check.KIND);
        refused("as(1, 3)", x -> x.as(1, 3), Check.KIND);
        refused("as(3, 5)", x -> x.as(3, 5), Check.KIND);
    }

    /** "BAD." The trace of the ask before stays, since what is refused changes nothing. trace: "NONE." */
    private static void asks() {
        int[] none = {-1, HOUSES, LEAST, MOST};
        for (int house : none) {
            refused("ask(" + house + ", 0)", x -> x.ask(house, 0), BAD);
        }
        int[] noAsks = {-1, 2, LEAST, MOST};
        for (int what : noAsks) {
            refused("ask(0, " + what + ")", x -> x.ask(0, what), BAD);
        }
        int[] noPlaces = {-1, 4, 15, 16, 17, LEAST, MOST};
        for (int i : noPlaces) {
            refused("trace(" + i + ")", x -> x.trace(i), NONE);
        }
    }

    private static void count() {
        int[] none = {-1, 7, LEAST, MOST};
        for (int what : none) {
            refused("count(" + what + ")", x -> x.count(what), BAD);
        }
    }

    /** "no FIELD": there is no HOUSE then, so the calls that name one are BAD, but for those that tell STATE. */
    private static void withoutField() {
        refusedWithoutField("say", x -> x.say(0, 0), BAD);
        refusedWithoutField("house", x -> x.house(0, 0), BAD);
        refusedWithoutField("wanted", x -> x.wanted(0, 0, -1), BAD);
        refusedWithoutField("brook", x -> x.brook(0), BAD);
        refusedWithoutField("kind", x -> x.kind(0), BAD);
        refusedWithoutField("as", x -> x.as(0, 0), BAD);
        refusedWithoutField("ask", x -> x.ask(0, 0), BAD);
        refusedWithoutField("trace", x -> x.trace(0), NONE);
        refusedWithoutField("image", x -> x.image(0), STATE);
        refusedWithoutField("restore", x -> x.restore(0), STATE);
        refusedWithoutField("cell(0)", x -> x.cell(0), STATE);
        refusedWithoutField("cell(-1): STATE ahead of BAD", x -> x.cell(-1), STATE);
        refusedWithoutField("cell(128): STATE ahead of BAD", x -> x.cell(128), STATE);
        refusedWithoutField("talk(0, 0, 1)", x -> x.talk(0, 0, 1), STATE);
        refusedWithoutField("talk(8, 0, 1): STATE ahead of BAD", x -> x.talk(8, 0, 1), STATE);
        refusedWithoutField("talk(0, 0, 21): STATE ahead of BAD", x -> x.talk(0, 0, 21), STATE);
        refusedWithoutField("talk(4, 0, 1): STATE ahead of NULL", x -> x.talk(4, 0, 1), STATE);
        refusedWithoutField("talk(0, 9, 1): STATE ahead of PLACE", x -> x.talk(0, 9, 1), STATE);
        for (int what = 0; what < 2; what++) {
            boolean guess = what == 1;
            refusedWithoutField("foretold", x -> foretell(guess, x, 0, 1, 0, 0), STATE);
            refusedWithoutField("foretold, row 8: STATE ahead of BAD", x -> foretell(guess, x, 8, 1, 0, 0), STATE);
            refusedWithoutField("foretold, n 9: STATE ahead of BAD", x -> foretell(guess, x, 0, 9, 0, 0), STATE);
            refusedWithoutField("foretold, -2: STATE ahead of BAD", x -> foretell(guess, x, 0, 1, 0, -2), STATE);
            refusedWithoutField("foretold, no rows: STATE ahead of NULL", x -> foretell(guess, x, 4, 1, 4, 0), STATE);
            refusedWithoutField("foretold, short: STATE ahead of PLACE", x -> foretell(guess, x, 0, 4, 0, 0), STATE);
        }
    }
}
