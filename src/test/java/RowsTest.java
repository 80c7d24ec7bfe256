/** Promises 2 to 5: row, set, copy, drop; with them status (25) and count(0) (24). */
public final class RowsTest {
    public static void main(String[] args) {
        making();
        setting();
        copying();
        copyRefused();
        dropping();
        Check.end();
    }

    private static void making() {
        LieSlides x = new LieSlides();
        Check.due("row of no items", x.row(0, 0, 0), 0);
        Check.due("row of 40", x.row(7, 2, 40), 40);
        Check.due("two rows", x.count(0), 2);
        Check.due("row 8", x.row(8, 0, 1), LieSlides.BAD);
        Check.due("row -1", x.row(-1, 0, 1), LieSlides.BAD);
        Check.due("lane 3", x.row(1, 3, 1), LieSlides.BAD);
        Check.due("lane -1", x.row(1, -1, 1), LieSlides.BAD);
        Check.due("n 41", x.row(1, 0, 41), LieSlides.BAD);
        Check.due("n most", x.row(1, 0, Integer.MAX_VALUE), LieSlides.BAD);
        Check.due("still two rows", x.count(0), 2);
        Check.due("BAD leaves status", x.status(), 0);
        Check.due("BAD ahead of SIZE", x.row(8, 0, -1), LieSlides.BAD);
        Check.due("SIZE", x.row(7, 0, -1), Check.SIZE);
        Check.due("status SIZE", x.status(), 4);
        Check.due("SIZE least", x.row(7, 0, Integer.MIN_VALUE), Check.SIZE);
        Check.due("the row stayed", x.set(7, 39, 70000), 70000);
        Check.due("status none", x.status(), 0);
        Check.due("row in place of another", x.row(7, 2, 40), 40);
        Check.due("items are 0 anew", copied(x, 7, 39, 6), 0);
    }

    /** An item is seen by asking what a copy of it does: there is no call that reads one. */
    private static int copied(LieSlides x, int row, int i, int spare) {
        x.row(spare, 2, 1);
        x.copy(row, i, spare, 0, 1);
        Check.read(x, "facts 0 15;house hut 0 0 1 1;");
        x.row(5, 2, 1);
        int answer = -1;
        for (int v = 0; v < 16 && answer < 0; v++) {
            x.set(5, 0, 0);
            x.copy(spare, 0, 5, 0, 1);
            Check.read(x, "facts 0 15;house hut " + v + " 0 1 1;");
            x.row(4, 2, 1);
            if (x.lies(4, 1, 5, 0) == 0) {
                answer = v;
            }
        }
        return answer;
    }

    private static void setting() {
        LieSlides x = new LieSlides();
        x.row(0, 0, 2);
        x.row(1, 1, 2);
        x.row(2, 2, 2);
        Check.due("byte 127", x.set(0, 1, 127), 127);
        Check.due("byte 128", x.set(0, 1, 128), -128);
        Check.due("byte 511", x.set(0, 0, 511), -1);
        Check.due("byte 256", x.set(0, 0, 256), 0);
        Check.due("short 32767", x.set(1, 0, 32767), 32767);
        Check.due("short 32768", x.set(1, 0, 32768), -32768);
        Check.due("short 65541", x.set(1, 1, 65541), 5);
        Check.due("int", x.set(2, 0, Integer.MIN_VALUE), Integer.MIN_VALUE);
        Check.due("row 8", x.set(8, 0, 0), LieSlides.BAD);
        Check.due("row -1", x.set(-1, 0, 0), LieSlides.BAD);
        Check.due("missing", x.set(3, 0, 0), Check.NULL_ROW);
        Check.due("status NULL", x.status(), 1);
        Check.due("BAD leaves status", x.set(9, 0, 0), LieSlides.BAD);
        Check.due("status NULL yet", x.status(), 1);
        Check.due("place 2", x.set(0, 2, 0), Check.PLACE);
        Check.due("place -1", x.set(0, -1, 0), Check.PLACE);
        Check.due("place most", x.set(0, Integer.MAX_VALUE, 0), Check.PLACE);
        Check.due("status PLACE", x.status(), 2);
        x.row(4, 0, 0);
        Check.due("a row of none has no place 0", x.set(4, 0, 0), Check.PLACE);
    }

    private static void copying() {
        LieSlides x = Check.with("facts 0 15;house hut 0 0 1 1;house hut 0 1 1 1;house hut 0 2 1 1;house hut 0 3 1 1;");
        Check.fill(x, 0, 0, 0, 1, 2, 3, 0, 0);
        Check.due("copy onto itself, up", x.copy(0, 0, 0, 1, 3), 3);
        Check.fill(x, 1, 0, 1, 1, 1, 0);
        Check.due("items are 0 0 1 2", x.lies(0, 4, 1, -1), 2);
        Check.fill(x, 0, 0, 0, 1, 2, 3, 0, 0);
        Check.due("copy onto itself, down", x.copy(0, 1, 0, 0, 3), 3);
        Check.fill(x, 1, 0, 0, 1, 1, 2);
        Check.due("items are 1 2 3 3", x.lies(0, 4, 1, -1), 1);
        Check.fill(x, 2, 0, 3, 3);
        Check.due("copy to another", x.copy(2, 0, 0, 0, 2), 2);
        Check.fill(x, 1, 0, 0, 0, 0, 4);
        Check.due("items are 3 3 3 3", x.lies(0, 4, 1, 0), 15);
        Check.due("nothing, at the ends", x.copy(2, 2, 0, 6, 0), 0);
        Check.due("all", x.copy(0, 0, 0, 0, 6), 6);
    }

    private static void copyRefused() {
        LieSlides x = new LieSlides();
        x.row(0, 0, 4);
        x.row(1, 1, 4);
        x.row(2, 0, 6);
        Check.due("row 8", x.copy(8, 0, 0, 0, 1), LieSlides.BAD);
        Check.due("to row -1", x.copy(0, 0, -1, 0, 1), LieSlides.BAD);
        Check.due("missing a, lanes and places wrong too", x.copy(3, -1, 1, 9, 1), Check.NULL_ROW);
        Check.due("missing b", x.copy(0, 0, 3, 0, 1), Check.NULL_ROW);
        Check.due("two lanes ahead of places", x.copy(0, -1, 1, 0, 1), Check.STORE);
        Check.due("status STORE", x.status(), 5);
        Check.due("i below 0", x.copy(0, -1, 2, 0, 1), Check.PLACE);
        Check.due("j below 0", x.copy(0, 0, 2, -1, 1), Check.PLACE);
        Check.due("n below 0", x.copy(0, 0, 2, 0, -1), Check.PLACE);
        Check.due("beyond the end of a", x.copy(0, 1, 2, 0, 4), Check.PLACE);
        Check.due("beyond the end of b", x.copy(2, 0, 0, 1, 4), Check.PLACE);
        Check.due("none, but beyond the end", x.copy(0, 5, 2, 0, 0), Check.PLACE);
        Check.due("sum wraps", x.copy(0, Integer.MAX_VALUE, 2, 0, Integer.MAX_VALUE), Check.PLACE);
        Check.due("sum wraps, j", x.copy(0, 0, 2, Integer.MAX_VALUE, 1), Check.PLACE);
        Check.due("status PLACE", x.status(), 2);
        Check.due("right again", x.copy(0, 0, 2, 2, 4), 4);
        Check.due("status 0", x.status(), 0);
    }

    private static void dropping() {
        LieSlides x = new LieSlides();
        x.row(3, 1, 17);
        x.row(4, 1, 0);
        Check.due("row -1", x.drop(-1), LieSlides.BAD);
        Check.due("row 8", x.drop(8), LieSlides.BAD);
        Check.due("drop", x.drop(3), 17);
        Check.due("one row", x.count(0), 1);
        Check.due("drop again", x.drop(3), Check.NULL_ROW);
        Check.due("status NULL", x.status(), 1);
        Check.due("drop one of none", x.drop(4), 0);
        Check.due("status 0", x.status(), 0);
        Check.due("no row", x.count(0), 0);
        Check.due("set in a dropped one", x.set(3, 0, 1), Check.NULL_ROW);
    }
}
