/** The boundary cases of ROWS (term 1) and of promises 2 to 5: what is allowed last. RefusedTest has what is not. */
public final class RowBoundsTest {
    private static final int LEAST = Integer.MIN_VALUE, MOST = Integer.MAX_VALUE;
    private static final int SPARE = 6, ZEROS = 7;

    public static void main(String[] args) {
        missingAtFirst();
        eachRow();
        eachLane();
        noItemsTo40();
        zeroAtFirst();
        lowestBits();
        firstAndLastPlace();
        copyToTheEnds();
        copyWithinARow();
        copyOfNone();
        copyAsTheyWere();
        copyLeavesTheRest();
        droppedAndMadeAgain();
        statusOfRows();
        Check.end();
    }

    /** Items of 0 to 8, seen by the least set of eight lies that brings a house to an item's X; else -1. Rows 6, 7 are used. */
    private static int[] items(LieSlides x, int row, int lane, int n) {
        Check.read(x, "facts 0 15;house hut 0 0 1 1;");
        x.row(ZEROS, 0, 8);
        x.row(SPARE, lane, 1);
        int[] items = new int[n];
        for (int i = 0; i < n; i++) {
            Check.due("item " + i + " is there", x.copy(row, i, SPARE, 0, 1), 1);
            int set = x.lies(ZEROS, 8, SPARE, 0);
            items[i] = set < 0 ? -1 : Integer.bitCount(set);
        }
        return items;
    }

    /** "ROWS 0 .. 7 are missing (at first)". */
    private static void missingAtFirst() {
        LieSlides x = new LieSlides();
        Check.due("no rows", x.count(0), 0);
        for (int row = 0; row < 8; row++) {
            Check.due("set of row " + row, x.set(row, 0, 0), Check.NULL_ROW);
            Check.due("drop of row " + row, x.drop(row), Check.NULL_ROW);
            Check.due("copy of row " + row, x.copy(row, 0, row, 0, 0), Check.NULL_ROW);
        }
        Check.due("no rows yet", x.count(0), 0);
    }

    private static void eachRow() {
        LieSlides x = new LieSlides();
        for (int row = 0; row < 8; row++) {
            Check.due("row " + row, x.row(row, row % 3, row + 1), row + 1);
            Check.due("how many", x.count(0), row + 1);
            Check.due("its last item", x.set(row, row, 7), 7);
            Check.due("no more", x.set(row, row + 1, 7), Check.PLACE);
        }
        for (int row = 7; row >= 0; row--) {
            Check.due("drop " + row, x.drop(row), row + 1);
            Check.due("how many", x.count(0), row);
        }
    }

    /** "a LANE (0 bytes, 1 shorts, 2 ints)": rows of one lane can be copied, of two they cannot. */
    private static void eachLane() {
        LieSlides x = new LieSlides();
        for (int lane = 0; lane < 3; lane++) {
            x.row(lane, lane, 2);
            x.row(3 + lane, lane, 2);
        }
        for (int a = 0; a < 6; a++) {
            for (int b = 0; b < 6; b++) {
                Check.due("copy of " + a + " to " + b, x.copy(a, 0, b, 0, 2), a % 3 == b % 3 ? 2 : Check.STORE);
                Check.due("status", x.status(), a % 3 == b % 3 ? 0 : 5);
            }
        }
        x.row(0, 1, 2);
        Check.due("another lane in its place", x.copy(0, 0, 1, 0, 2), 2);
        Check.due("no more of the lane before", x.copy(0, 0, 3, 0, 2), Check.STORE);
    }

    /** "0 to 40 ITEMS". */
    private static void noItemsTo40() {
        int[] some = {0, 1, 2, 39, 40};
        for (int n : some) {
            for (int lane = 0; lane < 3; lane++) {
                LieSlides x = new LieSlides();
                Check.due("row of " + n, x.row(7, lane, n), n);
                Check.due("status", x.status(), 0);
                Check.due("one more is no place", x.set(7, n, 1), Check.PLACE);
                if (n > 0) {
                    Check.due("the last place", x.set(7, n - 1, 1), 1);
                }
                Check.due("drop tells how many", x.drop(7), n);
            }
        }
    }

    /** "0 at first", also in place of what is there. */
    private static void zeroAtFirst() {
        LieSlides x = new LieSlides();
        Check.fill(x, 2, 0, 5, 6, 7, 8);
        x.row(2, 0, 6);
        Check.dueAll("a longer one in its place", items(x, 2, 0, 6), 0, 0, 0, 0, 0, 0);
        Check.fill(x, 2, 0, 5, 6, 7, 8);
        x.row(2, 0, 2);
        x.row(2, 0, 4);
        Check.dueAll("behind a shorter one", items(x, 2, 0, 4), 0, 0, 0, 0);
        Check.fill(x, 2, 2, 5, 6, 7, 8);
        x.drop(2);
        x.row(2, 2, 4);
        Check.dueAll("behind a missing one", items(x, 2, 2, 4), 0, 0, 0, 0);
        x.row(3, 1, 40);
        Check.dueAll("forty of them", items(x, 3, 1, 40), new int[40]);
    }

    /** "its lowest bits, as many as the LANE has: what it is then". */
    private static void lowestBits() {
        LieSlides x = new LieSlides();
        x.row(0, 0, 1);
        x.row(1, 1, 1);
        x.row(2, 2, 1);
        int[] values = {0, 1, -1, 127, 128, -128, -129, 255, 256, 257, 511, 32767, 32768, -32768, -32769, 65535, 65536, 65664, MOST,
            LEAST, MOST - 128, LEAST + 127};
        for (int v : values) {
            Check.due("a byte of " + v, x.set(0, 0, v), (byte) v);
            Check.due("a short of " + v, x.set(1, 0, v), (short) v);
            Check.due("an int of " + v, x.set(2, 0, v), v);
        }
        // what it is then is what is kept: 256 and 3, cut to 3
        x.set(0, 0, 259);
        x.set(1, 0, 65536 + 4);
        x.set(2, 0, 259);
        Check.dueAll("a byte", items(x, 0, 0, 1), 3);
        Check.dueAll("a short", items(x, 1, 1, 1), 4);
        Check.dueAll("an int is not cut", items(x, 2, 2, 1), -1);
    }

    private static void firstAndLastPlace() {
        LieSlides x = new LieSlides();
        x.row(3, 0, 40);
        x.row(4, 0, 40);
        x.row(5, 0, 40);
        Check.due("place 0", x.set(4, 0, 3), 3);
        Check.due("place 39", x.set(4, 39, 4), 4);
        int[] due = new int[40];
        Check.dueAll("the row before is as it was", items(x, 3, 0, 40), due);
        Check.dueAll("the row behind is as it was", items(x, 5, 0, 40), due);
        due[0] = 3;
        due[39] = 4;
        Check.dueAll("both", items(x, 4, 0, 40), due);
    }

    private static void copyToTheEnds() {
        LieSlides x = new LieSlides();
        x.row(0, 1, 40);
        x.row(1, 1, 40);
        for (int i = 0; i < 40; i++) {
            x.set(0, i, i % 9);
        }
        Check.due("all 40", x.copy(0, 0, 1, 0, 40), 40);
        int[] due = new int[40];
        for (int i = 0; i < 40; i++) {
            due[i] = i % 9;
        }
        Check.dueAll("all 40", items(x, 1, 1, 40), due);
        LieSlides y = new LieSlides();
        Check.fill(y, 0, 2, 1, 2, 3, 4, 5);
        Check.fill(y, 1, 2, 0, 0, 0, 8);
        Check.due("the last of a to the first of b", y.copy(0, 4, 1, 0, 1), 1);
        Check.due("the first of a to the last of b", y.copy(0, 0, 1, 3, 1), 1);
        Check.dueAll("both ends", items(y, 1, 2, 4), 5, 0, 0, 1);
        Check.due("as many as b has", y.copy(0, 1, 1, 0, 4), 4);
        Check.dueAll("all of b", items(y, 1, 2, 4), 2, 3, 4, 5);
        Check.due("to the ends of both", y.copy(1, 1, 0, 2, 3), 3);
        Check.dueAll("the end of a", items(y, 0, 2, 5), 1, 2, 3, 4, 5);
    }

    private static void copyWithinARow() {
        for (int lane = 0; lane < 3; lane++) {
            LieSlides x = new LieSlides();
            Check.fill(x, 3, lane, 1, 2, 3, 4, 5);
            Check.due("up", x.copy(3, 0, 3, 1, 4), 4);
            Check.dueAll("up", items(x, 3, lane, 5), 1, 1, 2, 3, 4);
            Check.fill(x, 3, lane, 1, 2, 3, 4, 5);
            Check.due("down", x.copy(3, 1, 3, 0, 4), 4);
            Check.dueAll("down", items(x, 3, lane, 5), 2, 3, 4, 5, 5);
            Check.fill(x, 3, lane, 1, 2, 3, 4, 5);
            Check.due("onto itself", x.copy(3, 0, 3, 0, 5), 5);
            Check.dueAll("onto itself", items(x, 3, lane, 5), 1, 2, 3, 4, 5);
        }
    }

    /** No items can be copied up to where a row ends, also of rows of none. */
    private static void copyOfNone() {
        LieSlides x = new LieSlides();
        Check.fill(x, 0, 0, 1, 2, 3);
        x.row(1, 0, 0);
        x.set(0, 9, 0);
        Check.due("from the end to the end", x.copy(0, 3, 1, 0, 0), 0);
        Check.due("status", x.status(), 0);
        Check.due("from a row of none", x.copy(1, 0, 0, 3, 0), 0);
        Check.due("one behind the end", x.copy(0, 4, 1, 0, 0), Check.PLACE);
        Check.due("one behind the end of none", x.copy(0, 0, 1, 1, 0), Check.PLACE);
        Check.dueAll("as it was", items(x, 0, 0, 3), 1, 2, 3);
    }

    /** "as they were ahead": twice the same copy carries on from what is there by then. */
    private static void copyAsTheyWere() {
        LieSlides x = new LieSlides();
        Check.fill(x, 0, 2, 1, 2, 3, 4, 5, 6);
        x.copy(0, 0, 0, 2, 4);
        Check.dueAll("once", items(x, 0, 2, 6), 1, 2, 1, 2, 3, 4);
        x.copy(0, 0, 0, 2, 4);
        Check.dueAll("twice", items(x, 0, 2, 6), 1, 2, 1, 2, 1, 2);
    }

    private static void copyLeavesTheRest() {
        LieSlides x = new LieSlides();
        Check.fill(x, 0, 0, 1, 2, 3, 4);
        Check.fill(x, 1, 0, 5, 6, 7, 8);
        x.copy(0, 1, 1, 2, 1);
        Check.dueAll("one item", items(x, 1, 0, 4), 5, 6, 2, 8);
        Check.dueAll("a is as it was", items(x, 0, 0, 4), 1, 2, 3, 4);
    }

    /** "A ROW is missing from now on". */
    private static void droppedAndMadeAgain() {
        LieSlides x = new LieSlides();
        x.row(5, 2, 40);
        Check.due("drop", x.drop(5), 40);
        Check.due("set", x.set(5, 0, 0), Check.NULL_ROW);
        Check.due("copy from it", x.copy(5, 0, 5, 0, 0), Check.NULL_ROW);
        Check.due("drop again", x.drop(5), Check.NULL_ROW);
        Check.due("none", x.count(0), 0);
        Check.due("made again", x.row(5, 0, 0), 0);
        Check.due("one", x.count(0), 1);
        Check.due("in its own place", x.row(5, 1, 40), 40);
        Check.due("one yet", x.count(0), 1);
        Check.due("drop", x.drop(5), 40);
    }

    /** "0: it had none": each call with a row that ends well clears a finding. */
    private static void statusOfRows() {
        LieSlides x = Check.with("facts 0 15;house hut 0 0 1 1;");
        x.row(0, 0, 2);
        for (int call = 0; call < 8; call++) {
            Check.due("a finding", x.set(0, 2, 0), Check.PLACE);
            Check.due("status", x.status(), 2);
            Check.due("status again", x.status(), 2);
            if (call == 0) {
                x.row(1, 0, 0);
            } else if (call == 1) {
                x.set(0, 1, 0);
            } else if (call == 2) {
                x.copy(0, 0, 1, 0, 0);
            } else if (call == 3) {
                x.drop(1);
            } else if (call == 4) {
                x.talk(0, 0, 1);
            } else if (call == 5) {
                x.lies(0, 1, 0, 0);
            } else if (call == 6) {
                x.guess(0, 1, 0, 0);
            } else {
                x.as(0, 5);
            }
            Check.due("cleared by call " + call, x.status(), 0);
        }
    }
}
