/** Promises 1, 6, 7, 8, 12, 13, 20: a new object, feed, field, fault, house, cell, kind. */
public final class FieldTest {
    private static final String FACTS = "facts 0 8;";
    private static final String HUT = "house hut 0 0 1 1;";

    public static void main(String[] args) {
        newObject();
        feeding();
        tokens();
        grammar();
        numbers();
        tooMany();
        faultsKeepAll();
        houses();
        doors();
        boxes();
        cells();
        Check.end();
    }

    private static void newObject() {
        LieSlides x = new LieSlides();
        for (int what = 0; what <= 6; what++) {
            Check.due("new count(" + what + ")", x.count(what), 0);
        }
        Check.due("new fault", x.fault(), 0);
        Check.due("new status", x.status(), 0);
        Check.due("new undo", x.undo(), LieSlides.STATE);
        Check.due("new cell", x.cell(0), LieSlides.STATE);
        Check.due("new cell, wrong", x.cell(-1), LieSlides.STATE);
        Check.due("new house", x.house(0, 0), LieSlides.BAD);
        Check.due("new trace", x.trace(0), LieSlides.NONE);
        Check.due("new restore", x.restore(1), LieSlides.STATE);
        Check.due("new row is missing", x.drop(7), Check.NULL_ROW);
    }

    private static void feeding() {
        LieSlides x = new LieSlides();
        Check.due("feed none", x.feed(1, 0), LieSlides.BAD);
        Check.due("feed 9", x.feed(1, 9), LieSlides.BAD);
        Check.due("feed -1", x.feed(1, -1), LieSlides.BAD);
        for (int k = 1; k <= 49; k++) {
            Check.due("feed", x.feed(0x2020202020202020L, 8), 8 * k);
        }
        Check.due("feed to 399", x.feed(0x20202020202020L, 7), 399);
        Check.due("two do not come", x.feed(0x2020, 2), LieSlides.FULL);
        Check.due("BAD ahead of FULL", x.feed(0x2020, 9), LieSlides.BAD);
        Check.due("399 yet", x.count(6), 399);
        Check.due("one comes", x.feed(0x20, 1), 400);
        Check.due("none comes", x.feed(0x20, 1), LieSlides.FULL);
        Check.due("the end of 400 blanks", x.field(), -1000500);
        Check.due("the tape is empty", x.count(6), 0);
        // the bytes above the lowest n are not of the text
        Check.feed(x, "facts 0 8;house hut 0 0 1 ");
        x.feed(0x787878787878313BL, 2);
        Check.due("the highest of the lowest first", x.field(), 1);
    }

    private static void fault(String text, int place, int number) {
        LieSlides x = new LieSlides();
        Check.due("field of '" + text + "'", Check.read(x, text), -1000100 - place);
        Check.due("fault of '" + text + "'", x.fault(), number);
        Check.due("no field by '" + text + "'", x.count(1), 0);
    }

    private static void right(String text, int houses) {
        LieSlides x = new LieSlides();
        Check.due("field of '" + text + "'", Check.read(x, text), houses);
        Check.due("fault of '" + text + "'", x.fault(), 0);
    }

    private static void tokens() {
        right("\n facts\n0  8 ; house hut 0\n0 1 1 ; \n", 1);
        right("facts0 8;house hut0 0 1 1;", 1);
        right("facts 000 008;house hut 015 007 001 001;", 1);
        fault("facts\t0 8;", 5, 1);
        fault("facts 0\r8;", 7, 1);
        fault("Facts 0 8;", 0, 1);
        fault("facts 0000 8;", 6, 1);
        fault("facts 9999999999999 8;", 6, 1);
        fault("facts -1 8;", 6, 1);
        fault("facts 0 8:", 9, 1);
        fault("facts 0 8\u00e9", 9, 1);
        fault("facts 0 8\u0000;", 9, 1);
        fault("  \n", 3, 1);
        fault("facts 0 8;  ", 12, 1);
        fault("factsfacts 0 8;", 0, 1);
        fault("fact 0 8;", 0, 1);
        fault("facts 0 8;{", 10, 1);
        fault("facts 0 8;`", 10, 1);
        fault("facts 0/8;", 7, 1);
    }

    private static void grammar() {
        fault("", 0, 1);
        fault("7", 0, 1);
        fault(";", 0, 1);
        fault("facts", 5, 1);
        fault("facts ;", 6, 1);
        fault("facts x 8;", 6, 1);
        fault("facts 0;", 7, 1);
        fault("facts 0 8 8;", 10, 1);
        fault("facts 0 8 house", 10, 1);
        fault("facts 0 8;facts 0 8;" + HUT, 10, 1);
        fault("facts 0 8;;", 10, 1);
        fault("facts 0 8;8", 10, 1);
        fault("facts 0 8;hut", 10, 1);
        fault(FACTS + "wall ;", 15, 1);
        fault(FACTS + "wall 1 ;", 17, 1);
        fault(FACTS + "wall 1 1 1;", 19, 1);
        fault(FACTS + "wall 1 1;house", 24, 1);
        fault(FACTS + "path 1 1;", 18, 1);
        fault(FACTS + "path 1 1 1", 20, 1);
        fault(FACTS + "path 1 1 1;wall 1 1;" + HUT, 21, 1);
        fault(FACTS + "house house 0 0 1 1;", 16, 1);
        fault(FACTS + "house 0 0 1 1;", 16, 1);
        fault(FACTS + "house huts 0 0 1 1;", 16, 1);
        fault(FACTS + "house hu 0 0 1 1;", 16, 1);
        fault(FACTS + "house hut 0 0 1;", 25, 1);
        fault(FACTS + "house hut 0 0 1 1 1;", 28, 1);
        fault(FACTS + HUT + "wall 5 5;", 28, 1);
        fault(FACTS + HUT + "path 5 5 5;", 28, 1);
        fault(FACTS + HUT + ";", 28, 1);
        fault(FACTS + HUT + "house", 33, 1);
        fault("facts 0 8 " + HUT, 10, 1);
        fault(FACTS + "wall 1 1 wall 2 2;" + HUT, 19, 1);
        fault(FACTS + "wall 1 1 path 2 2 2;" + HUT, 19, 1);
        fault(FACTS + "wall 1 1 " + HUT, 19, 1);
        fault(FACTS + "path 1 1 1 path 2 2 2;" + HUT, 21, 1);
        fault(FACTS + "path 1 1 1 " + HUT, 21, 1);
        fault(FACTS + "house hut 0 0 1 1 " + HUT, 28, 1);
        fault(FACTS + "tall 1 1;" + HUT, 10, 1);
        fault(FACTS + "mouse hut 0 0 1 1;", 10, 1);
        fault(FACTS + "house but 0 0 1 1;", 16, 1);
        fault(FACTS + "house jubge 0 0 1 1;", 16, 1);
        right(FACTS + "wall 1 1;path 1 1 1;path 2 0 15;" + HUT, 1);
        right(FACTS + HUT, 1);
    }

    private static void numbers() {
        right("facts 255 15;" + HUT, 1);
        fault("facts 256 15;" + HUT, 6, 2);
        fault("facts 999 999 999", 6, 2);
        fault("facts 255 7;" + HUT, 10, 2);
        fault("facts 255 16;" + HUT, 10, 2);
        right(FACTS + "wall 15 7;" + HUT, 1);
        fault(FACTS + "wall 16 7;" + HUT, 15, 2);
        fault(FACTS + "wall 15 8;" + HUT, 18, 2);
        right(FACTS + "path 7 15 15;" + HUT, 1);
        fault(FACTS + "path 8 0 0;" + HUT, 15, 2);
        fault(FACTS + "path 7 16 15;" + HUT, 17, 2);
        fault(FACTS + "path 7 0 16;" + HUT, 19, 2);
        fault(FACTS + "path 7 9 8;" + HUT, 19, 2);
        right(FACTS + "house mill 12 5 4 3;", 1);
        fault(FACTS + "house mill 16 5 4 3;", 21, 2);
        fault(FACTS + "house mill 12 8 4 3;", 24, 2);
        fault(FACTS + "house mill 12 5 0 3;", 26, 2);
        fault(FACTS + "house mill 0 5 5 3;", 25, 2);
        fault(FACTS + "house mill 12 5 4 0;", 28, 2);
        fault(FACTS + "house mill 0 0 4 4;", 27, 2);
        fault(FACTS + "house mill 13 5 4 3;", 28, 2);
        fault(FACTS + "house mill 12 6 4 3;", 28, 2);
        fault(FACTS + "wall 3 2;house mill 0 0 4 3;", 36, 2);
        right(FACTS + "wall 4 2;house mill 0 0 4 3;", 1);
        right(FACTS + HUT + "house inn 1 0 1 1;house inn 0 1 2 1;", 3);
        fault(FACTS + HUT + "house inn 0 0 1 1;", 44, 2);
        // a fault of form further on does not hide one ahead of it, nor a right place the end
        fault(FACTS + "house mill 13 5 4 3 3 3", 28, 2);
    }

    private static String times(String part, int n) {
        StringBuilder text = new StringBuilder();
        for (int k = 0; k < n; k++) {
            text.append(part);
        }
        return text.toString();
    }

    private static String huts(int n) {
        StringBuilder text = new StringBuilder();
        for (int k = 0; k < n; k++) {
            text.append("house hut ").append(k).append(" 0 1 1;");
        }
        return text.toString();
    }

    private static void tooMany() {
        right(FACTS + times("wall 9 7;", 12) + HUT, 1);
        fault(FACTS + times("wall 9 7;", 13) + HUT, 10 + 9 * 12, 3);
        fault(FACTS + times("wall 9 7;", 12) + "wall", 10 + 9 * 12, 3);
        right(FACTS + times("path 7 0 0;", 8) + HUT, 1);
        fault(FACTS + times("path 7 0 0;", 9) + HUT, 10 + 11 * 8, 3);
        right(FACTS + huts(6), 6);
        fault(FACTS + huts(7), 10 + 18 * 6, 3);
        fault(FACTS + huts(6) + "house house", 10 + 18 * 6, 3);
        fault(FACTS + huts(6) + "wall", 10 + 18 * 6, 1);
        LieSlides x = Check.with(FACTS + times("wall 9 7;", 11) + "wall 8 7;" + HUT);
        Check.due("a wall told often is one cell", x.count(2), 2);
    }

    private static void faultsKeepAll() {
        LieSlides x = Check.with("facts 1 9;wall 5 5;path 1 0 3;house inn 2 0 1 1;house hut 5 0 2 2;");
        x.say(0, 0);
        Check.due("a fault", Check.read(x, "facts 0 8;wall 1 1;house inn 0 0 1 9;"), -1000135);
        Check.due("its number", x.fault(), 2);
        Check.due("houses stay", x.count(1), 2);
        Check.due("walls stay", x.count(2), 1);
        Check.due("sayings stay", x.count(3), 1);
        Check.due("X stays", x.house(0, 0), 3);
        Check.due("kind stays", x.kind(1), 5);
        Check.due("brook stays", x.cell(8 + 48), -4);
        Check.due("path stays", x.cell(17), -2);
        Check.due("the tape is empty", x.count(6), 0);
        Check.due("read anew", Check.read(x, FACTS + HUT), 1);
        Check.due("the latest fault", x.fault(), 2);
        Check.due("one house", x.count(1), 1);
        Check.due("no wall", x.count(2), 0);
        Check.due("no path", x.cell(17), -4);
        Check.due("nothing was said", x.count(3), 0);
        Check.due("no lies", x.count(4), 0);
        Check.due("no lies in it", x.house(0, 8), 0);
        Check.due("nothing to undo", x.undo(), LieSlides.STATE);
    }

    private static void houses() {
        LieSlides x = Check.with("facts 0 9;house judge 1 2 3 1;house inn 5 0 4 3;house mill 9 4 1 1;house shop 0 7 1 1;"
                + "house hut 6 5 4 1;");
        int[][] due = {{1, 2, 3, 1, 0, 0, 0, 3}, {5, 0, 4, 3, 0, 0, 0, 60}, {9, 4, 1, 1, 1, 0, 0, 0},
            {0, 7, 1, 1, 0, 0, 0, 0}, {6, 5, 4, 1, 1, 0, 0, 0}};
        for (int h = 0; h < due.length; h++) {
            for (int what = 0; what < 8; what++) {
                Check.due("house(" + h + ", " + what + ")", x.house(h, what), due[h][what]);
            }
            Check.due("lies told in " + h, x.house(h, 8), 0);
            Check.due("kind of " + h, x.kind(h), h + 1);
        }
        Check.due("what 9", x.house(0, 9), LieSlides.BAD);
        Check.due("what -1", x.house(0, -1), LieSlides.BAD);
        Check.due("house 5", x.house(5, 0), LieSlides.BAD);
        Check.due("house -1", x.house(-1, 0), LieSlides.BAD);
        Check.due("kind of 5", x.kind(5), LieSlides.BAD);
        Check.due("kind of -1", x.kind(-1), LieSlides.BAD);
        Check.due("rent of all", x.count(5), 63);
    }

    private static void doors() {
        LieSlides x = Check.with("facts 0 8;wall 2 1;path 1 0 9;path 7 0 15;house hut 0 0 2 1;house hut 2 0 1 1;"
                + "house hut 3 0 2 1;house inn 3 1 1 1;house hut 9 0 1 1;house hut 4 5 1 3;");
        Check.due("a path", x.house(0, 5), 1);
        Check.due("a wall on a path", x.house(1, 5), 0);
        Check.due("a house on a path", x.house(2, 5), 0);
        Check.due("clay", x.house(3, 5), 0);
        Check.due("a path in the brook", x.house(4, 5), 1);
        Check.due("below the field", x.house(5, 5), 0);
        LieSlides y = Check.with("facts 0 8;path 1 0 9;house hut 0 1 1 1;house hut 0 0 1 1;");
        Check.due("the house 0 on a path", y.house(1, 5), 0);
    }

    private static void boxes() {
        LieSlides x = Check.with("facts 255 12;wall 1 6;house inn 2 1 2 2;house hut 0 1 2 1;house hut 1 2 1 1;"
                + "house hut 4 1 1 3;house hut 5 2 1 1;house hut 2 6 1 1;");
        int[] due = {1, 0, 0, 0, 0, 0};
        for (int h = 0; h < 6; h++) {
            Check.due("boxed " + h, x.house(h, 6), due[h]);
        }
        Check.due("one more east", x.say(4, 0), 16);
        Check.due("boxed yet", x.house(0, 6), 1);
        Check.due("its row is left", x.say(3, 0), 8);
        Check.due("boxed no more", x.house(0, 6), 0);
        LieSlides y = Check.with("facts 0 12;house inn 2 1 1 2;house hut 1 2 1 1;house hut 3 1 1 2;");
        Check.due("one row of two is not boxed", y.house(0, 6), 0);
        LieSlides z = Check.with("facts 0 15;house inn 0 0 1 1;house hut 1 0 1 1;house hut 15 0 1 1;house hut 14 0 1 1;");
        Check.due("the west end", z.house(0, 6), 0);
        Check.due("the east end", z.house(2, 6), 0);
        LieSlides w = Check.with("facts 0 15;wall 0 1;house inn 1 1 1 1;house hut 2 1 1 1;");
        Check.due("a wall", w.house(0, 6), 0);
        LieSlides v = Check.with("facts 0 15;house hut 0 0 1 1;house hut 1 0 1 1;house hut 2 0 1 1;house hut 0 1 1 1;");
        Check.due("by 0 and 2", v.house(1, 6), 1);
        LieSlides u = Check.with("facts 0 15;house hut 2 0 1 1;house hut 1 0 1 1;house hut 0 0 1 1;");
        Check.due("by 2 and 0", u.house(1, 6), 1);
    }

    private static void cells() {
        LieSlides x = Check.with("facts 0 8;wall 3 3;wall 9 3;path 3 2 10;house hut 2 3 1 1;house inn 9 2 1 1;");
        Check.due("house on a path", x.cell(2 + 48), 0);
        Check.due("house in the brook", x.cell(9 + 32), 1);
        Check.due("wall on a path", x.cell(3 + 48), -1);
        Check.due("wall on a path in the brook", x.cell(9 + 48), -1);
        Check.due("path", x.cell(4 + 48), -2);
        Check.due("path in the brook", x.cell(10 + 48), -2);
        Check.due("brook", x.cell(11 + 48), -3);
        Check.due("the first of the brook", x.cell(8), -3);
        Check.due("clay", x.cell(7), -4);
        Check.due("the last cell", x.cell(127), -3);
        Check.due("cell 0", x.cell(0), -4);
        LieSlides y = Check.with("facts 0 15;path 0 1 2;path 0 4 4;path 0 2 3;house hut 9 7 1 1;");
        int[] due = {-4, -2, -2, -2, -2, -4};
        for (int c = 0; c < due.length; c++) {
            Check.due("paths of one row, " + c, y.cell(c), due[c]);
        }
        Check.read(y, "facts 0 15;house hut 9 7 1 1;");
        Check.due("no path of the field before", y.cell(1), -4);
        Check.due("cell 128", x.cell(128), LieSlides.BAD);
        Check.due("cell -1", x.cell(-1), LieSlides.BAD);
    }
}
