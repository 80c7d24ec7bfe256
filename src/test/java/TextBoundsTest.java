/**
 * The boundary cases of ROWS and TEXTS (term 1) and of promises 6, 7, 8: each number of a text at the last that is allowed
 * and at the first that is not, each sort at its room and at one more, the end of the text, the tape at 400 bytes.
 */
public final class TextBoundsTest {
    private static final String FACTS = "facts 0 15;";
    private static final String HUT = "house hut 0 0 1 1;";

    public static void main(String[] args) {
        tapeOf400();
        fedBytes();
        bytesBetween();
        figures();
        letters();
        noOtherByte();
        truths();
        brook();
        wallNumbers();
        pathNumbers();
        houseNumbers();
        housesOnTheField();
        housesOnWalls();
        housesOnHouses();
        twelveWalls();
        eightPaths();
        sixHouses();
        firstTokenThenLeast();
        theEnd();
        eachTokenWrong();
        faultKeepsAll();
        faultNumberStays();
        newFieldInPlace();
        Check.end();
    }

    private static void fault(String text, int place, int number) {
        LieSlides x = new LieSlides();
        Check.due("field of '" + text + "'", Check.read(x, text), -1000100 - place);
        Check.due("fault of '" + text + "'", x.fault(), number);
        Check.due("no field by '" + text + "'", x.count(1), 0);
        Check.due("the tape is empty behind '" + text + "'", x.count(6), 0);
    }

    private static LieSlides right(String text, int houses) {
        LieSlides x = new LieSlides();
        Check.due("field of '" + text + "'", Check.read(x, text), houses);
        Check.due("no fault of '" + text + "'", x.fault(), 0);
        Check.due("houses of '" + text + "'", x.count(1), houses);
        Check.due("the tape is empty behind '" + text + "'", x.count(6), 0);
        return x;
    }

    /** The fault is at what comes behind ahead. */
    private static void faultBehind(String ahead, String rest, int number) {
        fault(ahead + rest, ahead.length(), number);
    }

    private static String times(String part, int n) {
        StringBuilder text = new StringBuilder();
        for (int k = 0; k < n; k++) {
            text.append(part);
        }
        return text.toString();
    }

    /** "THE TAPE has at most 400 bytes", "FULL: none comes". */
    private static void tapeOf400() {
        for (int last = 1; last <= 8; last++) {
            LieSlides x = new LieSlides();
            for (int k = 0; k < 49; k++) {
                x.feed(0x2020202020202020L, 8);
            }
            for (int k = 0; k < 8 - last; k++) {
                x.feed(0x20, 1);
            }
            if (last < 8) {
                Check.due("one more than 400", x.feed(0, last + 1), LieSlides.FULL);
            }
            Check.due("none of them came", x.count(6), 400 - last);
            Check.due("up to 400", x.feed(0x2020202020202020L, last), 400);
            Check.due("one behind 400", x.feed(0, 1), LieSlides.FULL);
            Check.due("400 yet", x.count(6), 400);
            Check.due("the end", x.field(), -1000500);
            Check.due("its fault", x.fault(), 1);
            Check.due("the tape takes bytes again", x.feed(0x2020202020202020L, 8), 8);
        }
        String text = FACTS + HUT;
        right(times(" ", 400 - text.length()) + text, 1);
        right(text + times("\n", 400 - text.length()), 1);
        right(FACTS + times(" ", 400 - text.length()) + HUT, 1);
        fault(times(" ", 399) + "x", 399, 1);
        fault(times("a", 400), 0, 1);
        fault(times("1", 400), 0, 1);
    }

    /** "The lowest n bytes of w (1 to 8), the highest of them first". */
    private static void fedBytes() {
        String text = FACTS + HUT;
        for (int n = 1; n <= 8; n++) {
            LieSlides x = new LieSlides();
            for (int at = 0; at < text.length(); at += n) {
                int some = Math.min(n, text.length() - at);
                // above the lowest bytes all bits are set, so that one taken too many is no token
                long w = -1;
                for (int k = 0; k < some; k++) {
                    w = w << 8 | text.charAt(at + k);
                }
                Check.due("bytes on the tape, by " + n, x.feed(w, some), at + some);
            }
            Check.due("read, by " + n, x.field(), 1);
        }
    }

    /** "bytes 32 and 10 between": no other one, and as many as one likes. */
    private static void bytesBetween() {
        right("facts\n0\n15\n;\nhouse\nhut\n0\n0\n1\n1\n;", 1);
        right("\n \n facts  \n0   15 ;  house   hut 0\n\n0 1 1 ;\n \n", 1);
        right("facts0 15;house hut0 0 1 1;", 1);
        int[] no = {0, 1, 9, 11, 13, 31, 33, 127, 128, 160, 255, 32 + 128, 10 + 128};
        for (int b : no) {
            if (b != 32 && b != 10) {
                faultBehind("facts", (char) b + "0 15;" + HUT, 1);
                faultBehind("facts 0 15;", (char) b + HUT, 1);
            }
        }
    }

    /** "NUMBERS (figures, 3 at most)": one of four is none, whatever it is worth. */
    private static void figures() {
        right("facts 000 015;" + HUT, 1);
        right("facts 255 008;" + HUT, 1);
        right(FACTS + "wall 015 007;path 007 000 015;house hut 000 000 001 001;", 1);
        faultBehind("facts ", "0000 15;" + HUT, 1);
        faultBehind("facts 0 ", "0015;" + HUT, 1);
        faultBehind("facts ", "1234 15;" + HUT, 1);
        faultBehind("facts 0 ", "4294967304;" + HUT, 1);
        faultBehind(FACTS + "house hut ", "0000 0 1 1;", 1);
        faultBehind(FACTS + "house hut 0 0 1 ", "0001;", 1);
        faultBehind("facts ", "999 15;" + HUT, 2);
    }

    /** "NAMES (letters a to z)". */
    private static void letters() {
        fault("`facts 0 15;" + HUT, 0, 1);
        fault("{facts 0 15;" + HUT, 0, 1);
        fault("Facts 0 15;" + HUT, 0, 1);
        fault("FACTS 0 15;" + HUT, 0, 1);
        fault("afacts 0 15;" + HUT, 0, 1);
        fault("factsz 0 15;" + HUT, 0, 1);
        fault("fact 0 15;" + HUT, 0, 1);
        fault("f acts 0 15;" + HUT, 0, 1);
        fault("pacts 0 15;" + HUT, 0, 1);
        fault("factz 0 15;" + HUT, 0, 1);
        String[] noWords = {"walls 1 1;", "wal 1 1;", "awall 1 1;", "Wall 1 1;", "paths 1 1 1;", "pat 1 1 1;", "houses hut 0 0 1 1;",
            "hous hut 0 0 1 1;", "tall 1 1;", "walk 1 1;", "bath 1 1 1;", "patz 1 1 1;", "mouse hut 0 0 1 1;", "housa hut 0 0 1 1;", "facts 0 8;", "hut 0 0 1 1;", "z;", "aaaaaaaaaaaaaaaaaaaaaaaaaaaaaaaa;"};
        for (String no : noWords) {
            faultBehind(FACTS, no + HUT, 1);
        }
        String[] noSorts = {"judges", "judg", "inns", "in", "mills", "mil", "shops", "sho", "huts", "hu", "house", "wall", "Hut", "a", "budge", "judga", "ann",
            "ins", "bill", "mile", "chop", "shot", "but", "hug"};
        for (String no : noSorts) {
            faultBehind(FACTS + "house ", no + " 0 0 1 1;", 1);
        }
        String[] sorts = {"judge", "inn", "mill", "shop", "hut"};
        for (int k = 0; k < sorts.length; k++) {
            LieSlides x = right(FACTS + "house " + sorts[k] + " 0 0 1 1;", 1);
            Check.due("the kind of " + sorts[k], x.kind(0), k + 1);
        }
    }

    /** "SIGNS ;" and no other: each byte that is no letter, no figure, not 32, 10 or ; is no token wherever it is. */
    private static void noOtherByte() {
        for (int b = 0; b < 256; b++) {
            boolean figure = b >= '0' && b <= '9';
            boolean letter = b >= 'a' && b <= 'z';
            if (!figure && !letter && b != 32 && b != 10 && b != ';') {
                faultBehind("facts 0 15", (char) b + HUT, 1);
                faultBehind(FACTS + HUT, String.valueOf((char) b), 1);
            }
        }
        // the bytes beside the figures, and beside the letters
        faultBehind("facts ", "/ 15;" + HUT, 1);
        faultBehind("facts ", ": 15;" + HUT, 1);
        faultBehind("facts 0", "/;" + HUT, 1);
        faultBehind("facts 0", ":;" + HUT, 1);
        faultBehind("facts ", "-1 15;" + HUT, 1);
        faultBehind("facts ", "+1 15;" + HUT, 1);
    }

    /** "a set of FACTS 0 to 7, 0 to 255". */
    private static void truths() {
        LieSlides x = right("facts 0 15;" + HUT, 1);
        LieSlides y = right("facts 255 15;" + HUT, 1);
        for (int fact = 0; fact < 8; fact++) {
            Check.due("no fact is so: a truth", x.say(0, 2 * fact), 0);
            Check.due("all facts are so: a truth", y.say(0, 2 * fact + 1), 0);
        }
        Check.due("fact 7 is not so: a lie", x.say(0, 15), 1);
        Check.due("fact 7 is so: a lie", y.say(0, 14), 1);
        LieSlides z = right("facts 128 15;" + HUT, 1);
        Check.due("fact 7 alone", z.say(0, 15), 0);
        Check.due("not fact 6", z.say(0, 13), 1);
        faultBehind("facts ", "256 15;" + HUT, 2);
        faultBehind("facts ", "999 15;" + HUT, 2);
    }

    /** "8 to 15: the first X of the brook, that reaches to X 15". */
    private static void brook() {
        for (int first = 8; first <= 15; first++) {
            LieSlides x = right("facts 0 " + first + ";" + HUT, 1);
            for (int y = 0; y < 8; y += 7) {
                Check.due("clay", x.cell(16 * y + first - 1), -4);
                Check.due("the first X of the brook", x.cell(16 * y + first), -3);
                Check.due("it reaches to X 15", x.cell(16 * y + 15), -3);
            }
        }
        faultBehind("facts 0 ", "7;" + HUT, 2);
        faultBehind("facts 0 ", "0;" + HUT, 2);
        faultBehind("facts 0 ", "16;" + HUT, 2);
        faultBehind("facts 0 ", "999;" + HUT, 2);
    }

    /** "CELLS: X 0 to 15, Y 0 to 7". */
    private static void wallNumbers() {
        String inn = "house inn 5 5 1 1;";
        int[][] corners = {{0, 0}, {15, 0}, {0, 7}, {15, 7}};
        for (int[] c : corners) {
            LieSlides x = right(FACTS + "wall " + c[0] + " " + c[1] + ";" + inn, 1);
            Check.due("a wall in a corner", x.cell(c[0] + 16 * c[1]), -1);
            Check.due("one cell", x.count(2), 1);
        }
        faultBehind(FACTS + "wall ", "16 0;" + inn, 2);
        faultBehind(FACTS + "wall 0 ", "8;" + inn, 2);
        faultBehind(FACTS + "wall ", "16 8;" + inn, 2);
        faultBehind(FACTS + "wall ", "999 0;" + inn, 2);
        faultBehind(FACTS + "wall 0 ", "999;" + inn, 2);
    }

    /** "CELLS of a row, X 0 to 15, TO no less". */
    private static void pathNumbers() {
        int[][] some = {{0, 0, 0}, {0, 15, 15}, {7, 0, 0}, {7, 15, 15}, {0, 0, 15}, {7, 4, 4}, {3, 4, 5}};
        for (int[] p : some) {
            LieSlides x = right("facts 0 8;path " + p[0] + " " + p[1] + " " + p[2] + ";house inn 5 5 1 1;", 1);
            for (int at = 0; at < 16; at++) {
                int none = at >= 8 ? -3 : -4;
                boolean path = at >= p[1] && at <= p[2];
                Check.due("a path, X " + at, x.cell(at + 16 * p[0]), path ? -2 : none);
                Check.due("another row, X " + at, x.cell(at + 16 * (p[0] == 0 ? 1 : p[0] - 1)), none);
            }
        }
        faultBehind(FACTS + "path ", "8 0 0;" + HUT, 2);
        faultBehind(FACTS + "path 0 ", "16 16;" + HUT, 2);
        faultBehind(FACTS + "path 0 0 ", "16;" + HUT, 2);
        faultBehind(FACTS + "path 0 15 ", "16;" + HUT, 2);
        faultBehind(FACTS + "path 0 5 ", "4;" + HUT, 2);
        faultBehind(FACTS + "path 0 15 ", "14;" + HUT, 2);
        faultBehind(FACTS + "path 0 1 ", "0;" + HUT, 2);
        faultBehind(FACTS + "path ", "999 999 999;" + HUT, 2);
    }

    /** "WIDE 1 to 4, HIGH 1 to 3", and X 0 to 15, Y 0 to 7 of its first cell. */
    private static void houseNumbers() {
        for (int wide = 1; wide <= 4; wide++) {
            for (int high = 1; high <= 3; high++) {
                LieSlides x = right(FACTS + "house hut 3 2 " + wide + " " + high + ";", 1);
                Check.due("X", x.house(0, 0), 3);
                Check.due("Y", x.house(0, 1), 2);
                Check.due("WIDE", x.house(0, 2), wide);
                Check.due("HIGH", x.house(0, 3), high);
            }
        }
        faultBehind(FACTS + "house hut 0 0 ", "0 1;", 2);
        faultBehind(FACTS + "house hut 0 0 ", "5 1;", 2);
        faultBehind(FACTS + "house hut 0 0 ", "999 1;", 2);
        faultBehind(FACTS + "house hut 0 0 1 ", "0;", 2);
        faultBehind(FACTS + "house hut 0 0 1 ", "4;", 2);
        faultBehind(FACTS + "house hut 0 0 1 ", "999;", 2);
        right(FACTS + "house hut 15 7 1 1;", 1);
        faultBehind(FACTS + "house hut ", "16 7 1 1;", 2);
        faultBehind(FACTS + "house hut 15 ", "8 1 1;", 2);
        faultBehind(FACTS + "house hut ", "999 0 1 1;", 2);
        faultBehind(FACTS + "house hut 0 ", "999 1 1;", 2);
    }

    /** "all its CELLS .. are on the field"; if not, the fault is of HIGH, also where WIDE alone is too much. */
    private static void housesOnTheField() {
        for (int wide = 1; wide <= 4; wide++) {
            int last = 16 - wide;
            LieSlides x = right(FACTS + "house hut " + last + " 0 " + wide + " 1;", 1);
            Check.due("its last cell", x.cell(15), 0);
            Check.due("its first cell", x.cell(last), 0);
            if (wide > 1) {
                faultBehind(FACTS + "house hut " + (last + 1) + " 0 " + wide + " ", "1;", 2);
                faultBehind(FACTS + "house hut 15 7 " + wide + " ", "1;", 2);
            }
        }
        for (int high = 1; high <= 3; high++) {
            int last = 8 - high;
            LieSlides x = right(FACTS + "house hut 0 " + last + " 1 " + high + ";", 1);
            Check.due("its last cell", x.cell(16 * 7), 0);
            Check.due("its first cell", x.cell(16 * last), 0);
            if (high > 1) {
                faultBehind(FACTS + "house hut 0 " + (last + 1) + " 1 ", high + ";", 2);
                faultBehind(FACTS + "house hut 15 7 1 ", high + ";", 2);
            }
        }
        right(FACTS + "house hut 12 5 4 3;", 1);
        faultBehind(FACTS + "house hut 13 6 4 ", "3;", 2);
    }

    /** "none is a wall": each of its cells, and none of those around it. */
    private static void housesOnWalls() {
        String house = "house hut 5 2 4 3;";
        for (int y = 1; y <= 5; y++) {
            for (int x = 4; x <= 9; x++) {
                String text = FACTS + "wall " + x + " " + y + ";";
                if (x >= 5 && x <= 8 && y >= 2 && y <= 4) {
                    faultBehind(text + "house hut 5 2 4 ", "3;", 2);
                } else {
                    right(text + house, 1);
                }
            }
        }
        right(FACTS + "path 2 0 15;" + house, 1);
    }

    /** "or of another house": with one cell in common, and with none but side by side. */
    private static void housesOnHouses() {
        String first = FACTS + "house inn 5 2 3 2;";
        for (int y = 0; y <= 4; y++) {
            for (int x = 2; x <= 9; x++) {
                boolean apart = x + 2 <= 5 || x >= 8 || y + 2 <= 2 || y >= 4;
                if (apart) {
                    right(first + "house hut " + x + " " + y + " 2 2;", 2);
                } else {
                    faultBehind(first + "house hut " + x + " " + y + " 2 ", "2;", 2);
                }
            }
        }
        faultBehind(FACTS + huts(5) + "house hut 4 0 1 ", "1;", 2);
        faultBehind(FACTS + huts(5) + "house hut 0 0 1 ", "1;", 2);
    }

    private static String huts(int n) {
        StringBuilder text = new StringBuilder();
        for (int k = 0; k < n; k++) {
            text.append("house hut ").append(k).append(" 0 1 1;");
        }
        return text.toString();
    }

    /** "told 12 times at most": the same cell told again is told, too. */
    private static void twelveWalls() {
        String walls = FACTS;
        for (int k = 0; k < 12; k++) {
            walls += "wall " + k + " 7;";
            LieSlides x = right(walls + HUT, 1);
            Check.due("walls", x.count(2), k + 1);
        }
        faultBehind(walls, "wall 12 7;" + HUT, 3);
        faultBehind(walls, "wall 0 7;" + HUT, 3);
        faultBehind(walls, "wall", 3);
        faultBehind(walls, "wall 99 99;", 3);
        String same = FACTS + times("wall 9 7;", 12);
        Check.due("one cell told 12 times", right(same + HUT, 1).count(2), 1);
        faultBehind(same, "wall 9 7;" + HUT, 3);
        Check.due("no wall at all", right(FACTS + HUT, 1).count(2), 0);
    }

    /** "8 at most". */
    private static void eightPaths() {
        String paths = FACTS;
        for (int k = 0; k < 8; k++) {
            paths += "path " + k + " 14 14;";
            Check.due("the last path", right(paths + HUT, 1).cell(14 + 16 * k), -2);
        }
        faultBehind(paths, "path 0 0 0;" + HUT, 3);
        faultBehind(paths, "path", 3);
        faultBehind(paths, "path 9 9 9;", 3);
        String same = FACTS + times("path 7 2 3;", 8);
        right(same + HUT, 1);
        faultBehind(same, "path 7 2 3;" + HUT, 3);
        right(FACTS + times("wall 9 7;", 12) + times("path 7 2 3;", 8) + HUT, 1);
    }

    /** "HOUSES 0 .. 5, 6 at most", and one at least. */
    private static void sixHouses() {
        for (int n = 1; n <= 6; n++) {
            right(FACTS + huts(n), n);
        }
        faultBehind(FACTS + huts(6), "house hut 6 0 1 1;", 3);
        faultBehind(FACTS + huts(6), "house", 3);
        faultBehind(FACTS + huts(6), "house hut 0 0 1 1;", 3);
        faultBehind(FACTS, "", 1);
        faultBehind(FACTS + "wall 1 1;", "", 1);
        faultBehind(FACTS + "path 1 1 1;", "", 1);
    }

    /** "FAULTS, the first TOKEN that has one .., of one TOKEN the least". */
    private static void firstTokenThenLeast() {
        String walls = FACTS + times("wall 9 7;", 12);
        // what cannot stand there is 1, though there were no room for it either
        faultBehind(walls + "path 0 0 0;", "wall 9 7;" + HUT, 1);
        faultBehind(walls + HUT, "wall 9 7;", 1);
        faultBehind(FACTS + times("path 7 2 3;", 8) + HUT, "path 7 2 3;", 1);
        faultBehind(FACTS + huts(6), "wall 9 7;", 1);
        faultBehind(FACTS + "wall ", "house 0;" + HUT, 1);
        faultBehind(FACTS + huts(5) + "house ", "house 0 0 1 1;", 1);
        // the first one, though a later one has a lesser number
        faultBehind("facts ", "256 x", 2);
        faultBehind("facts ", "256", 2);
        faultBehind(walls, "wall : 99", 3);
        faultBehind(FACTS + "wall ", "16 :", 2);
        faultBehind(FACTS + "house hut 0 0 ", "5 :", 2);
        faultBehind(FACTS + "house hut 0 0 1 ", "4 :", 2);
        // the first one, though a later one has a greater number
        faultBehind("facts ", "x 16;" + HUT, 1);
        faultBehind(FACTS + "wall ", "; 99;" + HUT, 1);
        // HIGH that is not as told and too much for the field as well is one fault
        faultBehind(FACTS + "house hut 15 7 4 ", "4;", 2);
        // the cells are looked at ahead of the semicolon
        faultBehind(FACTS + "house hut 15 0 2 ", "1", 2);
        faultBehind(FACTS + "house hut 14 0 2 1", "", 1);
    }

    private static final String[] TOKENS = {"facts", "3", "8", ";", "wall", "1", "1", ";", "path", "2", "0", "9", ";", "house",
        "hut", "0", "0", "1", "1", ";", "house", "inn", "3", "3", "4", "3", ";"};
    private static final String LAST_OF_HOUSE = " 19 26 ";

    private static String first(int tokens) {
        StringBuilder text = new StringBuilder();
        for (int k = 0; k < tokens; k++) {
            text.append(k == 0 ? "" : " ").append(TOKENS[k]);
        }
        return text.toString();
    }

    /** "the end: how many bytes there are", behind each token, with and without bytes 32 and 10 behind it. */
    private static void theEnd() {
        String[] tails = {"", " ", "\n", " \n  "};
        for (int n = 0; n <= TOKENS.length; n++) {
            for (String tail : tails) {
                String text = first(n) + tail;
                if (LAST_OF_HOUSE.contains(" " + (n - 1) + " ")) {
                    right(text, n == TOKENS.length ? 2 : 1);
                } else {
                    fault(text, text.length(), 1);
                }
            }
        }
        Check.due("nothing fed at all", new LieSlides().field(), -1000100);
    }

    /** Each token in turn replaced by one of each other sort: it cannot stand there, or is none. */
    private static void eachTokenWrong() {
        String[] wrong = {"x", "1", ";", "0000", "?", "facts", "wall", "path", "house", "hut"};
        for (int n = 0; n < TOKENS.length; n++) {
            for (String w : wrong) {
                if (!mayStandFor(n, w)) {
                    String ahead = n == 0 ? "" : first(n) + " ";
                    faultBehind(ahead, w + " 0 0 0 0 0;", 1);
                }
            }
        }
    }

    private static boolean mayStandFor(int n, String w) {
        String t = TOKENS[n];
        boolean number = t.charAt(0) >= '0' && t.charAt(0) <= '9';
        if (number) {
            return w.equals("1");
        }
        if (n == 4) {
            return w.equals("wall") || w.equals("path") || w.equals("house");
        }
        if (n == 8) {
            return w.equals("wall") || w.equals("path") || w.equals("house");
        }
        if (n == 13) {
            return w.equals("path") || w.equals("house");
        }
        if (n == 14 || n == 21) {
            return w.equals("hut");
        }
        return w.equals(t);
    }

    private static LieSlides past() {
        LieSlides x = new LieSlides();
        Check.read(x, "facts 5 9;wall 12 0;path 2 0 9;house inn 1 0 2 2;house hut 4 0 1 1;house mill 9 5 1 1;");
        Check.fill(x, 0, 0, 1, 0, 3);
        x.say(0, 0);
        x.image(0);
        x.say(1, 2);
        x.ask(1, 1);
        x.as(0, 5);
        return x;
    }

    /** "-1000100 less the place of a FAULT: all stays": all but the tape, that is empty then, and fault(). */
    private static void faultKeepsAll() {
        String[] texts = {"", "x", "facts 0 8;wall 1 1;path 0 0 0;house hut 0 0 1 1;house inn 2 0 2 2;house hut 5 5 5 5;",
            "facts 0 8;house hut 0 0 1 1;house hut 0 0 1 1;", "facts 255 15;" + times("wall 3 3;", 13)};
        int[] places = {0, 0, 80, 44, 13 + 9 * 12};
        int[] numbers = {1, 1, 2, 2, 3};
        for (int k = 0; k < texts.length; k++) {
            LieSlides x = past();
            LieSlides twin = past();
            // so that fault() and the tape of both are alike
            Check.read(twin, numbers[k] == 1 ? "" : numbers[k] == 2 ? "facts 999" : "facts 0 8;" + times("wall 1 1;", 13));
            Check.due("a fault of '" + texts[k] + "'", Check.read(x, texts[k]), -1000100 - places[k]);
            Check.due("its number", x.fault(), numbers[k]);
            Check.due("status stays", x.status(), 3);
            String got = Probe.of(x);
            String want = Probe.of(twin);
            Check.due("all stays: " + got + "\n" + want, got.equals(want) ? 1 : 0, 1);
        }
        LieSlides kept = past();
        LieSlides faulted = past();
        Check.read(faulted, "facts 0 8;house hut 0 0 1 1;house hut 0 0 1 1;");
        for (int cell = 0; cell < 128; cell++) {
            Check.due("cell " + cell, faulted.cell(cell), kept.cell(cell));
        }
        Check.due("said", faulted.count(3), 2);
    }

    /** "The number of the latest FAULT; 0 before one." */
    private static void faultNumberStays() {
        LieSlides x = new LieSlides();
        Check.due("none yet", x.fault(), 0);
        Check.read(x, FACTS + HUT);
        Check.due("none by a text that is right", x.fault(), 0);
        Check.read(x, FACTS + huts(6) + "house");
        Check.due("3", x.fault(), 3);
        Check.read(x, FACTS + HUT);
        Check.due("3 is the latest yet", x.fault(), 3);
        Check.read(x, "facts 256");
        Check.due("2", x.fault(), 2);
        x.field();
        Check.due("1, of an empty tape", x.fault(), 1);
        x.say(9, 9);
        x.feed(0, 9);
        Check.due("1 is the latest yet", x.fault(), 1);
    }

    /** "A FIELD that is read stands in place of the one before (none at first): nothing was said." */
    private static void newFieldInPlace() {
        LieSlides x = new LieSlides();
        Check.due("none at first", x.count(1), 0);
        Check.due("none at first", x.cell(0), LieSlides.STATE);
        Check.read(x, "facts 255 8;" + times("wall 15 7;", 11) + "wall 3 3;path 0 0 15;path 1 3 4;" + huts(6));
        for (int k = 0; k < 7; k++) {
            x.say(5, 0);
        }
        Check.due("said", x.count(3), 3);
        Check.read(x, "facts 0 15;house judge 8 3 1 1;");
        int[] counts = {0, 1, 0, 0, 0, 8, 0};
        for (int what = 0; what < counts.length; what++) {
            Check.due("count " + what, x.count(what), counts[what]);
        }
        Check.due("no lies", x.house(0, 8), 0);
        Check.due("no other house", x.house(1, 0), LieSlides.BAD);
        Check.due("no saying", x.undo(), LieSlides.STATE);
        for (int cell = 0; cell < 128; cell++) {
            int due = cell == 8 + 48 ? 0 : cell % 16 == 15 ? -3 : -4;
            Check.due("cell " + cell, x.cell(cell), due);
        }
        Check.due("its own facts", x.say(0, 0), 0);
    }
}
