/** The boundary cases of KINDS and ASKS (terms 3, 4) and of promises 20 to 25. RefusedTest has what is refused. */
public final class AskBoundsTest {
    private static final int NONE = LieSlides.NONE;
    private static final String SORTS = "facts 0 8;house judge 0 0 1 1;house inn 0 2 1 1;house mill 0 4 1 1;house shop 0 6 1 1;"
            + "house hut 4 0 4 3;house hut 15 7 1 1;";

    public static void main(String[] args) {
        kindsAsTold();
        takenAsEachKind();
        sizes();
        marks();
        marksOfTheMostXAndNumber();
        traceOfEachAsk();
        traceIsEmptyAhead();
        traceOfAtMost16();
        counts();
        countsAtTheMost();
        statusOfEachFinding();
        statusIsLeft();
        Check.end();
    }

    /** "as told (1 to 5)". */
    private static void kindsAsTold() {
        LieSlides x = Check.with(SORTS);
        int[] kinds = {1, 2, 3, 4, 5, 5};
        for (int h = 0; h < 6; h++) {
            Check.due("kind " + h, x.kind(h), kinds[h]);
        }
        Check.due("kind 6", x.kind(6), LieSlides.BAD);
        Check.due("kind -1", x.kind(-1), LieSlides.BAD);
    }

    /** "0 HOUSE; 1 JUDGE, a HOUSE; 2 INN, a HOUSE; 3 MILL, an INN one; 4 SHOP, an INN one; 5 HUT, a SHOP one." */
    private static void takenAsEachKind() {
        LieSlides x = Check.with(SORTS);
        boolean[][] is = {{true, true, false, false, false, false}, {true, false, true, false, false, false},
            {true, false, true, true, false, false}, {true, false, true, false, true, false}, {true, false, true, false, true, true}};
        for (int h = 0; h < 5; h++) {
            for (int kind = 0; kind < 6; kind++) {
                Check.due("house " + h + " as " + kind, x.as(h, kind), is[h][kind] ? h : Check.KIND);
                Check.due("status", x.status(), is[h][kind] ? 0 : 3);
            }
            Check.due("house " + h + " as -1", x.as(h, -1), LieSlides.BAD);
            Check.due("house " + h + " as 6", x.as(h, 6), LieSlides.BAD);
        }
    }

    private static void dueAsk(LieSlides x, int house, int what, int answer, int... trace) {
        Check.due("ask(" + house + ", " + what + ")", x.ask(house, what), answer);
        Check.dueAll("the trace of ask(" + house + ", " + what + ")", Check.trace(x), trace);
        Check.due("no more of it", x.trace(trace.length), NONE);
        Check.due("none ahead of it", x.trace(-1), NONE);
    }

    /** SIZE of each kind, of one cell and of twelve. */
    private static void sizes() {
        LieSlides x = Check.with(SORTS);
        dueAsk(x, 0, 0, 1 - 100, 13, 10);
        dueAsk(x, 1, 0, 1 + 1, 11, 10, 21, 20);
        dueAsk(x, 2, 0, -(1 + 2), 12, 11, 10, 21, 20);
        dueAsk(x, 3, 0, 1 + 3 - 1000, 11, 10, 22, 21, 20);
        dueAsk(x, 4, 0, 2 * (12 + 2 * (4 + 4 - 1000)), 14, 11, 10, 24, 22, 21, 20);
        dueAsk(x, 5, 0, 2 * (1 + 2 * (5 + 15 - 1000)), 14, 11, 10, 24, 22, 21, 20);
    }

    /** MARK of each kind; a mill has none of its own, and the inn's begins. */
    private static void marks() {
        LieSlides x = Check.with(SORTS);
        dueAsk(x, 0, 1, 0 - (1 - 100), 23, 20, 13, 10);
        dueAsk(x, 1, 1, 1, 21, 20);
        dueAsk(x, 2, 1, 2, 21, 20);
        dueAsk(x, 3, 1, 3 - 1000, 22, 21, 20);
        dueAsk(x, 4, 1, 2 * (8 - 1000), 24, 22, 21, 20);
        dueAsk(x, 5, 1, 2 * (20 - 1000), 24, 22, 21, 20);
    }

    /** X is asked as it stands by then; a drowned house is asked, too. */
    private static void marksOfTheMostXAndNumber() {
        LieSlides x = Check.with("facts 0 15;house inn 14 0 1 1;");
        Check.due("X 14", x.ask(0, 1), 14);
        x.say(0, 1);
        Check.due("X 15", x.ask(0, 1), 15);
        x.undo();
        Check.due("X 14 again", x.ask(0, 1), 14);
        LieSlides y = Check.with("facts 0 15;house judge 0 0 4 3;house judge 0 3 1 1;house judge 0 4 1 1;house judge 0 5 1 1;"
                + "house judge 0 6 1 1;house judge 5 5 4 3;");
        Check.due("SIZE of twelve cells", y.ask(0, 0), -88);
        Check.due("MARK of 0", y.ask(0, 1), 88);
        Check.due("MARK of 4", y.ask(4, 1), 4 + 99);
        Check.due("MARK of 5", y.ask(5, 1), 5 + 88);
    }

    /** "trace(i): Number i of THE TRACE; NONE." */
    private static void traceOfEachAsk() {
        LieSlides x = Check.with(SORTS);
        Check.due("empty at first", x.trace(0), NONE);
        x.ask(4, 0);
        int[] trace = {14, 11, 10, 24, 22, 21, 20};
        for (int i = 0; i < trace.length; i++) {
            Check.due("trace " + i, x.trace(i), trace[i]);
        }
        int[] none = {7, 8, 15, 16, 17, 100, -1, -2, Integer.MIN_VALUE, Integer.MAX_VALUE};
        for (int i : none) {
            Check.due("trace " + i, x.trace(i), NONE);
        }
    }

    /** "THE TRACE is empty ahead of it": a shorter one leaves nothing of a longer one. */
    private static void traceIsEmptyAhead() {
        LieSlides x = Check.with(SORTS);
        x.ask(4, 0);
        dueAsk(x, 1, 1, 1, 21, 20);
        for (int i = 2; i < 17; i++) {
            Check.due("nothing of the one before, " + i, x.trace(i), NONE);
        }
        x.ask(4, 2);
        x.ask(6, 0);
        Check.dueAll("a refused one leaves it", Check.trace(x), 21, 20);
        for (int k = 0; k < 20; k++) {
            x.ask(4, 0);
        }
        Check.due("twenty asks leave the last one's", Check.trace(x).length, 7);
    }

    /** "(the first 16)": no ask of any kind leaves more. */
    private static void traceOfAtMost16() {
        LieSlides x = Check.with(SORTS);
        for (int h = 0; h < 6; h++) {
            for (int what = 0; what < 2; what++) {
                x.ask(h, what);
                Check.due("number 16", x.trace(16), NONE);
                Check.due("number 17", x.trace(17), NONE);
            }
        }
    }

    /** "0 ROWS, 1 HOUSES, 2 CELLS that are walls, 3 SAYINGS .., 4 LIES in all, 5 RENT of all, 6 bytes on the tape. BAD." */
    private static void counts() {
        LieSlides x = new LieSlides();
        for (int what = 0; what < 7; what++) {
            Check.due("at first, " + what, x.count(what), 0);
        }
        Check.due("count -1", x.count(-1), LieSlides.BAD);
        Check.due("count 7", x.count(7), LieSlides.BAD);
        x.row(0, 0, 0);
        Check.due("a row of no items is one", x.count(0), 1);
        Check.read(x, "facts 0 8;wall 5 5;wall 5 5;house hut 3 0 2 2;house inn 3 5 2 1;house inn 9 0 1 1;");
        x.say(0, 1);
        x.say(0, 0);
        x.say(1, 1);
        x.feed(0, 3);
        int[] due = {1, 3, 1, 3, 2, 16 + 6, 3};
        for (int what = 0; what < due.length; what++) {
            Check.due("count " + what, x.count(what), due[what]);
        }
    }

    private static void countsAtTheMost() {
        LieSlides x = new LieSlides();
        StringBuilder text = new StringBuilder("facts 0 15;");
        for (int k = 0; k < 12; k++) {
            text.append("wall ").append(k).append(" 7;");
        }
        for (int k = 0; k < 6; k++) {
            text.append("house hut 0 ").append(k).append(" 1 1;");
        }
        Check.read(x, text.toString());
        for (int row = 0; row < 8; row++) {
            x.row(row, 2, 40);
        }
        for (int k = 0; k < 50; k++) {
            x.feed(0, 8);
        }
        for (int k = 0; k < 60; k++) {
            x.say(k % 6, 1);
        }
        int[] due = {8, 6, 12, 24, 60, 60, 400};
        for (int what = 0; what < due.length; what++) {
            Check.due("count " + what, x.count(what), due[what]);
        }
    }

    /** "NULL 1, PLACE 2, KIND 3, SIZE 4, STORE 5". */
    private static void statusOfEachFinding() {
        LieSlides x = Check.with(SORTS);
        Check.due("there was none", x.status(), 0);
        x.row(0, 0, 1);
        x.row(1, 1, 1);
        Check.due("NULL", x.drop(2), -1000011);
        Check.due("1", x.status(), 1);
        Check.due("PLACE", x.set(0, 1, 0), -1000012);
        Check.due("2", x.status(), 2);
        Check.due("KIND", x.as(0, 2), -1000013);
        Check.due("3", x.status(), 3);
        Check.due("SIZE", x.row(0, 0, -1), -1000014);
        Check.due("4", x.status(), 4);
        Check.due("STORE", x.copy(0, 0, 1, 0, 0), -1000015);
        Check.due("5", x.status(), 5);
        Check.due("as() that is right", x.as(0, 1), 0);
        Check.due("0", x.status(), 0);
    }

    /** "Of the latest call with a ROW, or as(), that was not BAD, STATE, FULL": no other call changes it. */
    private static void statusIsLeft() {
        LieSlides x = Check.with(SORTS);
        x.as(0, 5);
        x.feed(0x20, 1);
        x.feed(0x20, 0);
        x.fault();
        x.say(0, 1);
        x.say(0, 0);
        x.say(5, 0);
        x.undo();
        x.house(0, 0);
        x.cell(0);
        x.wanted(0, 3, -1);
        x.brook(0);
        x.image(0);
        x.restore(0);
        x.restore(1);
        x.kind(0);
        x.ask(0, 0);
        x.trace(0);
        x.trace(9);
        x.count(0);
        x.count(9);
        Check.due("calls without a row", x.status(), 3);
        x.field();
        Check.due("field, a fault", x.status(), 3);
        Check.read(x, SORTS);
        Check.due("field, a new one", x.status(), 3);
        x.row(8, 0, 0);
        x.set(8, 0, 0);
        x.copy(8, 0, 0, 0, 0);
        x.drop(8);
        x.talk(8, 0, 1);
        x.lies(8, 1, 0, 0);
        x.guess(8, 1, 0, 0);
        x.as(0, 6);
        Check.due("BAD", x.status(), 3);
        LieSlides y = new LieSlides();
        y.drop(0);
        y.talk(0, 0, 1);
        y.lies(0, 1, 0, 0);
        y.guess(0, 1, 0, 0);
        y.as(0, 0);
        Check.due("STATE", y.status(), 1);
    }
}
