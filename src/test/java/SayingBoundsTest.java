/** The boundary cases of A SAYING (term 2) and of promises 9 to 13. RefusedTest has what is refused. */
public final class SayingBoundsTest {
    private static final int OPEN = 5, BOXED = 6, RENT = 7, LIES = 8, DROWNED = 4;

    public static void main(String[] args) {
        claims();
        sixHouses();
        beyondX15();
        wallAhead();
        wallAheadOfPushed();
        wallsBeside();
        inTheWay();
        drowned();
        drownedIsPushed();
        drownedByAPush();
        doorBelow();
        doorOnPath();
        doorBelowTheField();
        boxed();
        boxedAtEnds();
        rents();
        cells();
        talkOfOneAndTwenty();
        talkItems();
        talkToTheEndOfARow();
        talkPassesOver();
        keptUpTo24();
        keptAcrossTalks();
        undoneInTurn();
        undoneTruths();
        Check.end();
    }

    /** "2 k, FACT k is not so; 2 k and 1, it is so. It is a LIE, if that is false", claims 0 to 15. */
    private static void claims() {
        for (int fact = 0; fact < 8; fact++) {
            LieSlides x = Check.with("facts " + (1 << fact) + " 15;house hut 0 0 1 1;");
            for (int k = 0; k < 8; k++) {
                Check.due("fact " + k + " is so", x.say(0, 2 * k + 1), k == fact ? 0 : 1);
                x.undo();
                Check.due("fact " + k + " is not so", x.say(0, 2 * k), k == fact ? 1 : 0);
                x.undo();
            }
        }
    }

    private static void sixHouses() {
        LieSlides x = Check.with("facts 0 15;house hut 0 0 1 1;house hut 0 1 1 1;house hut 0 2 1 1;house hut 0 3 1 1;"
                + "house hut 0 4 1 1;house hut 0 5 1 1;");
        for (int h = 0; h < 6; h++) {
            Check.due("house " + h, x.say(h, 1), 1 << h);
            Check.due("its X", x.house(h, 0), 1);
            Check.due("its lies", x.house(h, LIES), 1);
        }
        Check.due("house 6", x.say(6, 1), LieSlides.BAD);
    }

    /** "beyond X 15, nothing slides": to X 15 they slide, one more they do not. */
    private static void beyondX15() {
        for (int wide = 1; wide <= 4; wide++) {
            LieSlides x = Check.with("facts 0 15;house hut " + (14 - wide) + " 3 1 1;house inn " + (15 - wide) + " 3 " + wide + " 1;");
            Check.due("to X 15", x.say(0, 1), 3);
            Check.due("its X", x.house(1, 0), 16 - wide);
            Check.due("the last cell", x.cell(15 + 48), 1);
            Check.due("beyond it", x.say(0, 1), 0);
            Check.due("its X", x.house(1, 0), 16 - wide);
        }
        LieSlides y = Check.with("facts 0 15;house hut 9 3 4 1;house inn 13 3 2 1;");
        Check.due("to X 15", y.say(0, 1), 3);
        Check.due("beyond it", y.say(0, 1), 0);
        Check.dueAll("nothing slides", Check.xs(y), 10, 14);
        Check.due("both are lies", y.house(0, LIES), 2);
        Check.due("both can be undone", y.count(3), 2);
        // one of two that are pushed stands at the end
        LieSlides z = Check.with("facts 0 15;house hut 11 0 2 2;house inn 13 0 2 1;house inn 13 1 3 1;");
        Check.due("one of the pushed ones would come beyond", z.say(0, 1), 0);
        Check.dueAll("nothing slides", Check.xs(z), 11, 13, 13);
        LieSlides w = Check.with("facts 0 15;house hut 14 0 1 1;");
        Check.due("alone, to X 15", w.say(0, 1), 1);
        Check.due("it is drowned there", w.say(0, 1), LieSlides.STATE);
    }

    /** "if one of these would come on a wall": one X more is clay, then the wall. */
    private static void wallAhead() {
        for (int wide = 1; wide <= 4; wide++) {
            for (int row = 0; row < 3; row++) {
                LieSlides x = Check.with("facts 0 15;wall " + (wide + 1) + " " + (2 + row) + ";house hut 0 2 " + wide + " 3;");
                Check.due("up to the wall", x.say(0, 1), 1);
                Check.due("on the wall", x.say(0, 1), 0);
                Check.due("its X", x.house(0, 0), 1);
                Check.due("two lies", x.house(0, LIES), 2);
            }
        }
    }

    private static void wallAheadOfPushed() {
        LieSlides x = Check.with("facts 0 15;wall 5 0;house hut 0 0 1 1;house inn 1 0 1 1;house mill 2 0 2 1;house hut 0 7 1 1;");
        Check.due("up to the wall", x.say(0, 1), 7);
        Check.due("the last of three would come on it", x.say(0, 1), 0);
        Check.due("also from the middle", x.say(1, 1), 0);
        Check.due("and from the last", x.say(2, 1), 0);
        Check.dueAll("nothing slides", Check.xs(x), 1, 2, 3, 0);
        Check.due("another row is free", x.say(3, 1), 8);
        // the wall is ahead of the pusher, not of the pushed
        LieSlides y = Check.with("facts 0 15;wall 2 1;house hut 0 0 2 2;house inn 2 0 1 1;");
        Check.due("the pusher is stopped", y.say(0, 1), 0);
        Check.due("the other is free", y.say(1, 1), 2);
    }

    private static void wallsBeside() {
        LieSlides x = Check.with("facts 0 15;wall 5 1;wall 5 4;wall 3 2;wall 7 2;wall 4 1;wall 4 4;wall 3 3;house hut 4 2 2 2;");
        Check.due("walls above, below, west and two X east stop nothing", x.say(0, 1), 1);
        Check.due("now one stops", x.say(0, 1), 0);
    }

    /** "a HOUSE that would have a CELL in common with one that slides": by one row, or by none. */
    private static void inTheWay() {
        for (int y = 0; y <= 6; y++) {
            LieSlides x = Check.with("facts 0 15;house hut 0 2 2 3;house inn 2 " + y + " 1 2;");
            boolean common = y + 1 >= 2 && y <= 4;
            Check.due("the other's Y " + y, x.say(0, 1), common ? 3 : 1);
            LieSlides apart = Check.with("facts 0 15;house hut 0 2 2 3;house inn 3 " + y + " 1 2;");
            Check.due("an X apart, Y " + y, apart.say(0, 1), 1);
            Check.due("now side by side", apart.say(0, 1), common ? 3 : 1);
            LieSlides west = Check.with("facts 0 15;house hut 3 2 2 3;house inn 2 " + y + " 1 2;");
            Check.due("what is west stays, Y " + y, west.say(0, 1), 1);
        }
        LieSlides six = Check.with("facts 0 15;house hut 5 0 1 1;house hut 4 0 1 1;house hut 3 0 1 1;house hut 2 0 1 1;"
                + "house hut 1 0 1 1;house hut 0 0 1 1;");
        for (int h = 0; h < 6; h++) {
            Check.due("all that stand east of " + h, six.say(h, 1), (2 << h) - 1);
            six.undo();
        }
        sixAtAWall();
    }

    /** The one at the wall is the last that is come to, from either side of the numbers. */
    private static void sixAtAWall() {
        LieSlides falling = Check.with("facts 0 15;wall 7 0;house hut 5 0 1 1;house hut 4 0 1 1;house hut 3 0 1 1;house hut 2 0 1 1;"
                + "house hut 1 0 1 1;house hut 0 0 1 1;");
        LieSlides rising = Check.with("facts 0 15;wall 7 0;house hut 0 0 1 1;house hut 1 0 1 1;house hut 2 0 1 1;house hut 3 0 1 1;"
                + "house hut 4 0 1 1;house hut 5 0 1 1;");
        Check.due("six up to the wall", falling.say(5, 1), 63);
        Check.due("six up to the wall", rising.say(0, 1), 63);
        for (int h = 0; h < 6; h++) {
            Check.due("the wall stops all from " + h, falling.say(h, 1), 0);
            Check.due("the wall stops all from " + h, rising.say(h, 1), 0);
        }
        Check.dueAll("nothing slid", Check.xs(falling), 6, 5, 4, 3, 2, 1);
        Check.dueAll("nothing slid", Check.xs(rising), 1, 2, 3, 4, 5, 6);
    }

    /** "DROWNED, if a CELL of it is in the brook". */
    private static void drowned() {
        for (int brook = 8; brook <= 15; brook += 7) {
            for (int wide = 1; wide <= 4; wide++) {
                String text = "facts 0 " + brook + ";house hut " + (brook - wide) + " 0 " + wide + " 2;";
                LieSlides x = Check.with(text);
                Check.due("its last cell is ahead of the brook", x.house(0, DROWNED), 0);
                Check.due("a truth", x.say(0, 0), 0);
                Check.due("a lie", x.say(0, 1), 1);
                Check.due("its last cell is in the brook", x.house(0, DROWNED), 1);
                Check.due("no saying: a truth", x.say(0, 0), LieSlides.STATE);
                Check.due("no saying: a lie", x.say(0, 1), LieSlides.STATE);
                Check.due("two sayings", x.count(3), 2);
                Check.due("one lie", x.count(4), 1);
            }
        }
        LieSlides y = Check.with("facts 0 8;house hut 8 0 1 1;house hut 15 7 1 1;house hut 7 3 2 1;");
        for (int h = 0; h < 3; h++) {
            Check.due("from the beginning on", y.house(h, DROWNED), 1);
            Check.due("STATE", y.say(h, 1), LieSlides.STATE);
        }
    }

    /** "but it is pushed". */
    private static void drownedIsPushed() {
        LieSlides x = Check.with("facts 0 8;house hut 6 0 1 1;house inn 7 0 2 1;house hut 9 0 1 1;");
        Check.due("two drowned ones are pushed", x.say(0, 1), 7);
        Check.dueAll("stands", Check.xs(x), 7, 8, 10);
        Check.due("once more", x.say(0, 1), 7);
        Check.due("now all are drowned", x.say(0, 1), LieSlides.STATE);
    }

    private static void drownedByAPush() {
        LieSlides x = Check.with("facts 0 8;house hut 6 0 1 1;house inn 7 0 1 1;");
        Check.due("dry", x.house(1, DROWNED), 0);
        x.say(0, 1);
        Check.due("drowned by another's lie", x.house(1, DROWNED), 1);
        Check.due("no lies of its own", x.house(1, LIES), 0);
        Check.due("STATE", x.say(1, 0), LieSlides.STATE);
        x.undo();
        Check.due("dry again", x.house(1, DROWNED), 0);
        Check.due("a saying again", x.say(1, 0), 0);
    }

    /** "Its DOOR is below its first CELL (X, Y and HIGH)". */
    private static void doorBelow() {
        for (int high = 1; high <= 3; high++) {
            for (int y = 0; y < 8; y++) {
                LieSlides x = Check.with("facts 0 15;path " + y + " 0 15;house hut 3 1 2 " + high + ";");
                Check.due("a path in row " + y + ", HIGH " + high, x.house(0, OPEN), y == 1 + high ? 1 : 0);
            }
        }
        for (int at = 0; at < 8; at++) {
            LieSlides x = Check.with("facts 0 15;path 2 " + at + " " + at + ";house hut 3 1 3 1;");
            Check.due("a path of one cell, X " + at, x.house(0, OPEN), at == 3 ? 1 : 0);
        }
    }

    /** "it is OPEN, if that is a path, and no wall, no house". */
    private static void doorOnPath() {
        LieSlides x = Check.with("facts 0 15;path 1 2 4;house hut 0 0 1 1;");
        int[] due = {0, 0, 1, 1, 1, 0, 0};
        for (int at = 0; at < due.length; at++) {
            Check.due("its X " + at, x.house(0, OPEN), due[at]);
            x.say(0, 1);
        }
        LieSlides wall = Check.with("facts 0 15;wall 3 1;path 1 0 15;house hut 2 0 1 1;");
        Check.due("beside the wall", wall.house(0, OPEN), 1);
        wall.say(0, 1);
        Check.due("on the wall", wall.house(0, OPEN), 0);
        wall.say(0, 1);
        Check.due("behind the wall", wall.house(0, OPEN), 1);
        LieSlides house = Check.with("facts 0 15;path 1 0 15;house hut 2 0 1 1;house hut 3 1 2 1;");
        int[] open = {1, 0, 0, 1};
        for (int k = 0; k < open.length; k++) {
            Check.due("by a house, its X " + (2 + k), house.house(0, OPEN), open[k]);
            house.say(0, 1);
        }
        LieSlides first = Check.with("facts 0 15;path 1 0 15;house hut 2 1 1 1;house hut 2 0 1 1;");
        Check.due("by the house 0", first.house(1, OPEN), 0);
        LieSlides ends = Check.with("facts 0 8;path 1 0 15;house hut 0 0 1 1;house hut 15 0 1 1;");
        Check.due("X 0", ends.house(0, OPEN), 1);
        Check.due("X 15, in the brook", ends.house(1, OPEN), 1);
    }

    private static void doorBelowTheField() {
        for (int high = 1; high <= 3; high++) {
            LieSlides last = Check.with("facts 0 15;path 7 0 15;path 0 0 15;house hut 3 " + (7 - high) + " 1 " + high + ";");
            Check.due("a door in the last row", last.house(0, OPEN), 1);
            LieSlides below = Check.with("facts 0 15;path 7 0 15;path 0 0 15;house hut 3 " + (8 - high) + " 1 " + high + ";");
            Check.due("a door below the field", below.house(0, OPEN), 0);
        }
    }

    /** "for each of its rows the CELL west of it, and the one east of it, is of another house". */
    private static void boxed() {
        String three = "house inn 5 2 2 3;";
        String west = "house hut 4 2 1 3;";
        String east = "house hut 7 2 1 3;";
        Check.due("both sides", Check.with("facts 0 15;" + three + west + east).house(0, BOXED), 1);
        Check.due("west alone", Check.with("facts 0 15;" + three + west).house(0, BOXED), 0);
        Check.due("east alone", Check.with("facts 0 15;" + three + east).house(0, BOXED), 0);
        Check.due("none", Check.with("facts 0 15;" + three).house(0, BOXED), 0);
        int[][] gaps = {{2, 2, 0}, {3, 2, 0}, {1, 2, 0}, {1, 3, 0}, {2, 3, 1}};
        for (int[] g : gaps) {
            String part = g[0] + " 1 " + g[1] + ";";
            LieSlides x = Check.with("facts 0 15;" + three + west + "house hut 7 " + part);
            Check.due("east of Y " + part, x.house(0, BOXED), g[2]);
            LieSlides y = Check.with("facts 0 15;" + three + east + "house hut 4 " + part);
            Check.due("west of Y " + part, y.house(0, BOXED), g[2]);
        }
        Check.due("an X apart", Check.with("facts 0 15;" + three + west + "house hut 8 2 1 3;").house(0, BOXED), 0);
        Check.due("an X apart", Check.with("facts 0 15;" + three + east + "house hut 3 2 1 3;").house(0, BOXED), 0);
        Check.due("several houses", Check.with("facts 0 15;" + three + east
                + "house hut 4 2 1 1;house hut 3 3 2 1;house hut 1 4 4 1;").house(0, BOXED), 1);
        Check.due("by the house 0 in the east", Check.with("facts 0 15;house hut 7 2 1 3;" + west + three).house(2, BOXED), 1);
        Check.due("by the house 0 in the west", Check.with("facts 0 15;house hut 4 2 1 3;" + east + three).house(2, BOXED), 1);
        Check.due("drowned ones box, too", Check.with("facts 0 8;house inn 9 2 1 1;house hut 8 2 1 1;house hut 10 2 1 1;")
                .house(0, BOXED), 1);
    }

    /** "(not a wall, not the end of the field)". */
    private static void boxedAtEnds() {
        LieSlides x = Check.with("facts 0 15;wall 0 5;wall 4 5;house hut 0 0 1 1;house hut 1 0 1 1;house hut 15 0 1 1;house hut 14 0 1 1;"
                + "house inn 1 5 1 1;house inn 2 5 2 1;");
        int[] due = {0, 0, 0, 0, 0, 0};
        for (int h = 0; h < due.length; h++) {
            Check.due("beside an end or a wall, " + h, x.house(h, BOXED), due[h]);
        }
        LieSlides y = Check.with("facts 0 15;house hut 0 0 1 1;house hut 1 0 1 1;house hut 2 0 1 1;house hut 15 7 1 1;house hut 14 7 1 1;"
                + "house hut 13 7 1 1;");
        int[] between = {0, 1, 0, 0, 1, 0};
        for (int h = 0; h < between.length; h++) {
            Check.due("X 0 to 2, X 13 to 15, " + h, y.house(h, BOXED), between[h]);
        }
        // the cell behind X 15 is not X 0 of the next row, nor the one ahead of X 0 X 15 of the row before
        LieSlides z = Check.with("facts 0 15;house hut 0 1 1 1;house hut 1 1 1 1;house hut 15 0 1 1;house hut 14 0 1 1;");
        Check.due("X 0", z.house(0, BOXED), 0);
        Check.due("X 15", z.house(2, BOXED), 0);
    }

    /** "RENT of a HOUSE: X times WIDE times HIGH; of one DROWNED 0." */
    private static void rents() {
        LieSlides x = Check.with("facts 0 15;house hut 0 0 4 3;house inn 10 3 4 3;house mill 15 0 1 1;");
        Check.due("X 0", x.house(0, RENT), 0);
        Check.due("X 10", x.house(1, RENT), 120);
        Check.due("drowned", x.house(2, RENT), 0);
        Check.due("all", x.count(5), 120);
        x.say(1, 1);
        Check.due("the most there can be", x.house(1, RENT), 132);
        x.say(1, 1);
        Check.due("drowned now", x.house(1, RENT), 0);
        Check.due("all", x.count(5), 0);
    }

    /** "a HOUSE; -1 a wall, -2 a path, -3 the brook, -4 clay, the first of these", cells 0 to 127. */
    private static void cells() {
        LieSlides x = Check.with("facts 0 8;wall 8 0;wall 1 0;wall 15 7;path 0 0 9;path 7 15 15;house hut 0 0 1 1;house inn 9 0 1 1;"
                + "house inn 0 7 1 1;");
        int[] row = {0, -1, -2, -2, -2, -2, -2, -2, -1, 1, -3, -3, -3, -3, -3, -3};
        for (int cell = 0; cell < 16; cell++) {
            Check.due("cell " + cell, x.cell(cell), row[cell]);
            Check.due("cell " + (16 + cell), x.cell(16 + cell), cell < 8 ? -4 : -3);
        }
        Check.due("cell 127, a wall on a path in the brook", x.cell(127), -1);
        Check.due("cell 126", x.cell(126), -3);
        Check.due("cell 112", x.cell(112), 2);
        Check.due("cell 111", x.cell(111), -3);
        Check.due("cell 128", x.cell(128), LieSlides.BAD);
        Check.due("cell -1", x.cell(-1), LieSlides.BAD);
    }

    /** "n of them (1 to 20)". */
    private static void talkOfOneAndTwenty() {
        LieSlides x = Check.with("facts 0 15;house hut 0 0 1 1;house hut 0 1 1 1;");
        x.row(0, 0, 40);
        for (int k = 0; k < 40; k++) {
            x.set(0, k, 16 * (k % 2) + 1);
        }
        Check.due("one", x.talk(0, 0, 1), 1);
        Check.dueAll("stands", Check.xs(x), 1, 0);
        Check.due("nineteen", x.talk(0, 1, 19), 19);
        Check.dueAll("stands", Check.xs(x), 10, 10);
        LieSlides y = Check.with("facts 0 15;house hut 0 0 1 1;house hut 0 1 1 1;");
        y.row(3, 2, 20);
        for (int k = 0; k < 20; k++) {
            y.set(3, k, 16 * (k % 2) + 1);
        }
        Check.due("twenty", y.talk(3, 0, 20), 20);
        Check.due("all are kept", y.count(3), 20);
        Check.dueAll("stands", Check.xs(y), 10, 10);
        Check.due("twenty-one", y.talk(3, 0, 21), LieSlides.BAD);
        Check.due("none", y.talk(3, 0, 0), LieSlides.BAD);
    }

    /** "16 times the HOUSE, and the CLAIM": from 0 up to the last claim of the last house, in each lane. */
    private static void talkItems() {
        for (int lane = 0; lane < 3; lane++) {
            LieSlides x = Check.with("facts 170 15;house hut 0 0 1 1;house hut 0 1 1 1;house hut 0 2 1 1;");
            x.row(0, lane, 1);
            for (int item = 0; item < 48; item++) {
                x.set(0, 0, item);
                int fact = item % 16 / 2;
                boolean lie = (170 >> fact & 1) != item % 2;
                Check.due("item " + item, x.talk(0, 0, 1), lie ? 1 : 0);
                Check.due("its X", x.house(item / 16, 0), lie ? 1 : 0);
                x.undo();
            }
            x.set(0, 0, 48);
            Check.due("item 48", x.talk(0, 0, 1), LieSlides.BAD);
            x.set(0, 0, -1);
            Check.due("item -1", x.talk(0, 0, 1), LieSlides.BAD);
        }
        LieSlides six = Check.with("facts 0 15;house hut 0 0 1 1;house hut 0 1 1 1;house hut 0 2 1 1;house hut 0 3 1 1;"
                + "house hut 0 4 1 1;house hut 0 5 1 1;");
        Check.fill(six, 0, 0, 95, 96);
        Check.due("item 95", six.talk(0, 0, 1), 1);
        Check.due("X of 5", six.house(5, 0), 1);
        Check.due("item 96", six.talk(0, 1, 1), LieSlides.BAD);
        Check.due("95 is not said again", six.talk(0, 0, 2), LieSlides.BAD);
        Check.due("X of 5", six.house(5, 0), 1);
    }

    private static void talkToTheEndOfARow() {
        LieSlides x = Check.with("facts 0 15;house hut 0 0 1 1;");
        Check.fill(x, 2, 0, 1, 0, 1);
        Check.due("the whole row", x.talk(2, 0, 3), 2);
        Check.due("its last item", x.talk(2, 2, 1), 1);
        Check.due("its first item", x.talk(2, 0, 1), 1);
        Check.due("one too many", x.talk(2, 2, 2), Check.PLACE);
        Check.due("behind it", x.talk(2, 3, 1), Check.PLACE);
        Check.due("X", x.house(0, 0), 4);
        Check.due("sayings", x.count(3), 5);
        x.row(3, 0, 40);
        Check.due("places 20 to 39", x.talk(3, 20, 20), 0);
        Check.due("places 21 to 40", x.talk(3, 21, 20), Check.PLACE);
    }

    /** "those in DROWNED ones are passed over", also those drowned by an item ahead; "how many slid something". */
    private static void talkPassesOver() {
        LieSlides x = Check.with("facts 0 8;house hut 6 0 1 1;house inn 7 0 1 1;house mill 9 3 1 1;");
        Check.fill(x, 0, 0, 33, 1, 17, 16, 0, 1, 1, 33);
        Check.due("talk", x.talk(0, 0, 8), 2);
        Check.dueAll("stands", Check.xs(x), 8, 9, 9);
        Check.due("no lie in the drowned", x.house(1, LIES), 0);
        Check.due("no lie in the drowned", x.house(2, LIES), 0);
        Check.due("sayings: a lie, a truth, a lie", x.count(3), 3);
        Check.due("all are passed over", x.talk(0, 0, 1), 0);
        Check.due("status", x.status(), 0);
        Check.due("sayings yet", x.count(3), 3);
        Check.due("the latest is a lie", x.undo(), 2);
        Check.dueAll("stands", Check.xs(x), 7, 8, 9);
    }

    /** "24 at most are kept, of more the oldest is forgotten". */
    private static void keptUpTo24() {
        for (int said = 23; said <= 26; said++) {
            LieSlides x = Check.with("facts 0 15;house hut 0 0 1 1;house inn 0 1 1 1;");
            for (int k = 0; k < said; k++) {
                x.say(k % 2, 1);
                Check.due("kept", x.count(3), Math.min(k + 1, 24));
            }
            int kept = Math.min(said, 24);
            for (int left = kept - 1; left >= 0; left--) {
                Check.due("undone, left", x.undo(), left);
            }
            Check.due("no more of " + said, x.undo(), LieSlides.STATE);
            int forgotten = said - kept;
            Check.dueAll("what was forgotten stays, of " + said, Check.xs(x), (forgotten + 1) / 2, forgotten / 2);
            Check.due("its lies stay", x.count(4), forgotten);
        }
        // behind an undo there is room for one more, and nothing is forgotten
        LieSlides y = Check.with("facts 0 15;house hut 0 0 1 1;");
        for (int k = 0; k < 24; k++) {
            y.say(0, k == 0 ? 1 : 0);
        }
        y.undo();
        y.say(0, 0);
        Check.due("24", y.count(3), 24);
        for (int k = 0; k < 24; k++) {
            y.undo();
        }
        Check.due("the first was kept", y.house(0, 0), 0);
    }

    private static void keptAcrossTalks() {
        LieSlides x = Check.with("facts 0 15;wall 2 0;house hut 0 0 1 1;house hut 0 1 1 1;");
        x.row(0, 0, 20);
        for (int k = 0; k < 20; k++) {
            x.set(0, k, k % 2 == 0 ? 1 : 16);
        }
        Check.due("one slid", x.talk(0, 0, 20), 1);
        Check.due("20", x.count(3), 20);
        Check.due("none slid", x.talk(0, 0, 20), 0);
        Check.due("24", x.count(3), 24);
        Check.due("lies", x.count(4), 20);
        for (int left = 23; left >= 0; left--) {
            Check.due("left", x.undo(), left);
        }
        Check.due("16 sayings were forgotten, 8 of them lies", x.house(0, LIES), 8);
        Check.due("the one that slid among them", x.house(0, 0), 1);
    }

    /** "the latest first". */
    private static void undoneInTurn() {
        LieSlides x = Check.with("facts 0 15;house hut 0 0 1 1;house inn 1 0 1 1;house mill 5 0 1 1;");
        int[] who = {2, 0, 1, 0, 2, 1, 1, 1, 0};
        int[][] stands = new int[who.length][];
        int[] lies = new int[who.length];
        for (int k = 0; k < who.length; k++) {
            stands[k] = Check.xs(x);
            lies[k] = x.house(who[k], LIES);
            x.say(who[k], 1);
        }
        for (int k = who.length - 1; k >= 0; k--) {
            Check.due("left", x.undo(), k);
            Check.dueAll("stands ahead of saying " + k, Check.xs(x), stands[k]);
            Check.due("lies ahead of saying " + k, x.house(who[k], LIES), lies[k]);
        }
        Check.due("none", x.undo(), LieSlides.STATE);
    }

    /** "also one that was no LIE", and one that slid nothing. */
    private static void undoneTruths() {
        LieSlides x = Check.with("facts 0 15;wall 2 0;house hut 0 0 1 1;");
        x.say(0, 1);
        x.say(0, 1);
        x.say(0, 0);
        Check.due("a truth", x.undo(), 2);
        Check.due("lies", x.count(4), 2);
        Check.due("a lie that was stopped", x.undo(), 1);
        Check.due("lies", x.count(4), 1);
        Check.due("X", x.house(0, 0), 1);
        Check.due("a lie that slid", x.undo(), 0);
        Check.due("lies", x.count(4), 0);
        Check.due("X", x.house(0, 0), 0);
    }
}
