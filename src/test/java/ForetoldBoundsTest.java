/** The boundary cases of FORETOLD (term 3) and of promises 14 to 19. RefusedTest has what is refused. */
public final class ForetoldBoundsTest {
    private static final int NONE = LieSlides.NONE;
    private static final String SIX = "facts 0 15;house hut 0 0 1 1;house hut 0 1 1 1;house hut 0 2 1 1;house hut 0 3 1 1;"
            + "house hut 0 4 1 1;house hut 0 5 1 1;";

    public static void main(String[] args) {
        oneToEightSayings();
        setsInOrder();
        theIth();
        rowsAsLongAsNeeded();
        standsOfAllHouses();
        standsThatAreNoX();
        housesSaidFirstAndLast();
        liesThatSlideNothing();
        drownedSlidesAllTheSame();
        asAllStandsNow();
        fewest();
        sure();
        question();
        noSetFits();
        nothingChanges();
        wantedNoLies();
        wantedFourLies();
        wantedX();
        wantedK();
        wantedNotDrowned();
        wantedFirstRow();
        wantedOfSixHouses();
        brookNoLies();
        brookOneToFifteen();
        brookStopped();
        bothImages();
        imageOfAnotherField();
        restoreForgetsSayings();
        Check.end();
    }

    private static LieSlides withSaid(String text, int... said) {
        LieSlides x = Check.with(text);
        Check.fill(x, 0, 0, said);
        return x;
    }

    private static void dueSets(String what, LieSlides x, int n, int... sets) {
        Check.due(what + ": how many", x.lies(0, n, 1, -1), sets.length);
        for (int i = 0; i < sets.length; i++) {
            Check.due(what + ": set " + i, x.lies(0, n, 1, i), sets[i]);
        }
        Check.due(what + ": not so many", x.lies(0, n, 1, sets.length), NONE);
    }

    /** "n HOUSES (1 to 8)". */
    private static void oneToEightSayings() {
        LieSlides x = withSaid("facts 0 15;house hut 0 0 1 1;", 0, 0, 0, 0, 0, 0, 0, 0, 0);
        x.row(1, 0, 1);
        int[] binomial = {1, 8, 28, 56, 70, 56, 28, 8, 1};
        for (int at = 0; at <= 8; at++) {
            x.set(1, 0, at);
            Check.due("eight sayings to X " + at, x.lies(0, 8, 1, -1), binomial[at]);
            Check.due("the least set to X " + at, x.lies(0, 8, 1, 0), (1 << at) - 1);
            Check.due("the greatest set to X " + at, x.lies(0, 8, 1, binomial[at] - 1), (1 << at) - 1 << 8 - at);
            Check.due("no more", x.lies(0, 8, 1, binomial[at]), NONE);
        }
        x.set(1, 0, 9);
        Check.due("no set of eight to X 9", x.lies(0, 8, 1, -1), 0);
        for (int n = 1; n <= 8; n++) {
            x.set(1, 0, n);
            dueSets("all of " + n, x, n, (1 << n) - 1);
            x.set(1, 0, 0);
            dueSets("none of " + n, x, n, 0);
        }
        Check.due("n 0", x.lies(0, 0, 1, -1), LieSlides.BAD);
        Check.due("n 9", x.lies(0, 9, 1, -1), LieSlides.BAD);
    }

    /** "the i-th, the least first". */
    private static void setsInOrder() {
        LieSlides x = withSaid("facts 0 15;house hut 0 0 1 1;", 0, 0, 0, 0, 0, 0, 0, 0);
        Check.fill(x, 1, 0, 4);
        int ahead = -1;
        for (int i = 0; i < 70; i++) {
            int set = x.lies(0, 8, 1, i);
            Check.due("four lies in set " + i, Integer.bitCount(set), 4);
            Check.due("each is greater than the one ahead, " + i, set > ahead ? 1 : 0, 1);
            ahead = set;
        }
    }

    /** "how many (i = -1), the i-th; NONE: not so many". */
    private static void theIth() {
        LieSlides x = withSaid("facts 0 15;house hut 0 0 1 1;", 0, 0);
        Check.fill(x, 1, 0, 1);
        Check.due("-1", x.lies(0, 2, 1, -1), 2);
        Check.due("-2", x.lies(0, 2, 1, -2), LieSlides.BAD);
        Check.due("0", x.lies(0, 2, 1, 0), 1);
        Check.due("1", x.lies(0, 2, 1, 1), 2);
        Check.due("2", x.lies(0, 2, 1, 2), NONE);
        Check.due("255", x.lies(0, 2, 1, 255), NONE);
        Check.due("256", x.lies(0, 2, 1, 256), NONE);
        Check.due("most", x.lies(0, 2, 1, Integer.MAX_VALUE), NONE);
        Check.due("NONE is no finding", x.status(), 0);
        // all 256 sets: what is stopped stays
        LieSlides y = withSaid("facts 0 15;wall 1 0;house hut 0 0 1 1;", 0, 0, 0, 0, 0, 0, 0, 0);
        Check.fill(y, 1, 0, 0);
        Check.due("all sets", y.lies(0, 8, 1, -1), 256);
        Check.due("the last", y.lies(0, 8, 1, 255), 255);
        Check.due("no more", y.lies(0, 8, 1, 256), NONE);
    }

    /** said: "n ITEMS of a ROW from its beginning on"; stands: "as many ITEMS of another one as there are HOUSES". */
    private static void rowsAsLongAsNeeded() {
        LieSlides x = withSaid(SIX, 0, 5, 3);
        Check.fill(x, 1, 0, 1, 0, 0, 1, 0, 1);
        Check.due("as long as needed", x.lies(0, 3, 1, 0), 7);
        Check.due("said is short by one", x.lies(0, 4, 1, 0), Check.PLACE);
        Check.due("guess: as long as needed", x.guess(0, 3, 1, 0), 7);
        Check.due("guess: said is short by one", x.guess(0, 4, 1, 0), Check.PLACE);
        Check.fill(x, 2, 1, 1, 0, 0, 1, 0);
        Check.due("stands is short by one", x.lies(0, 3, 2, 0), Check.PLACE);
        Check.due("guess: stands is short by one", x.guess(0, 3, 2, 0), Check.PLACE);
        Check.fill(x, 3, 2, 1, 0, 0, 1, 0, 1, 15);
        Check.due("stands may be longer", x.lies(0, 3, 3, 0), 7);
        Check.fill(x, 4, 2, 0, 5, 3, 99);
        Check.due("what is behind n in said is not looked at", x.lies(4, 3, 3, 0), 7);
        Check.due("but is within n", x.lies(4, 4, 3, 0), LieSlides.BAD);
        LieSlides y = withSaid("facts 0 15;house hut 0 0 1 1;", 0);
        Check.fill(y, 1, 0, 1);
        Check.due("one item each", y.lies(0, 1, 1, 0), 1);
        y.row(1, 0, 0);
        Check.due("no item", y.lies(0, 1, 1, 0), Check.PLACE);
        Check.fill(y, 1, 0, 1);
        y.row(0, 0, 0);
        Check.due("no item", y.lies(0, 1, 1, 0), Check.PLACE);
    }

    /** "each HOUSE has the X that a row tells": the first and the last one, too. */
    private static void standsOfAllHouses() {
        LieSlides x = withSaid(SIX, 0, 1, 2, 3, 4, 5);
        Check.fill(x, 1, 0, 0, 0, 0, 0, 0, 0);
        for (int h = 0; h < 6; h++) {
            x.set(1, h, 1);
            dueSets("house " + h + " one more east", x, 6, 1 << h);
            x.set(1, h, 2);
            dueSets("house " + h + " two more east", x, 6);
            x.set(1, h, 0);
        }
    }

    /** An item that is no X at all is met by no set. */
    private static void standsThatAreNoX() {
        int[] no = {-1, 16, -16, 17, 32, 256, Integer.MIN_VALUE, Integer.MAX_VALUE, 1 << 28, 1 << 24};
        for (int h = 0; h < 6; h += 5) {
            LieSlides x = withSaid(SIX, 0, 5);
            Check.fill(x, 1, 2, 0, 0, 0, 0, 0, 0);
            for (int v : no) {
                x.set(1, h, v);
                dueSets("X " + v + " of " + h, x, 2);
            }
        }
        // 16 of one house is not one X more of the next
        LieSlides z = withSaid(SIX, 0, 1, 2, 3, 4, 5);
        Check.fill(z, 1, 2, 0, 0, 0, 0, 0, 0);
        for (int h = 0; h < 6; h++) {
            z.set(1, h, 16);
            dueSets("X 16 of " + h, z, 6);
            z.set(1, h, 17);
            dueSets("X 17 of " + h, z, 6);
            z.set(1, h, 0);
        }
        LieSlides y = withSaid("facts 0 8;house hut 14 0 1 1;house hut 15 1 1 1;", 0, 1, 0);
        Check.fill(y, 1, 0, 15, 15);
        Check.due("X 15", y.lies(0, 3, 1, -1), 6);
        Check.fill(y, 1, 0, 16, 15);
        Check.due("X 16", y.lies(0, 3, 1, -1), 0);
    }

    private static void housesSaidFirstAndLast() {
        LieSlides x = withSaid(SIX, 5, 0, 5);
        Check.fill(x, 1, 0, 1, 0, 0, 0, 0, 2);
        dueSets("houses 0 and 5", x, 3, 7);
        x.set(0, 0, 6);
        Check.due("house 6", x.lies(0, 3, 1, -1), LieSlides.BAD);
        x.set(0, 0, -1);
        Check.due("house -1", x.lies(0, 3, 1, -1), LieSlides.BAD);
    }

    /** A lie that is stopped is a lie: sets with it and without it fit. */
    private static void liesThatSlideNothing() {
        LieSlides x = withSaid("facts 0 15;wall 1 0;house hut 0 0 1 1;", 0);
        Check.fill(x, 1, 0, 0);
        dueSets("a wall", x, 1, 0, 1);
        LieSlides y = withSaid("facts 0 15;house hut 13 0 2 1;house inn 15 0 1 1;", 0, 1);
        Check.fill(y, 1, 0, 13, 15);
        dueSets("the end", y, 2, 0, 1, 2, 3);
    }

    /** "what is DROWNED by then slides all the same". */
    private static void drownedSlidesAllTheSame() {
        LieSlides x = withSaid("facts 0 8;house hut 7 0 1 1;house inn 9 1 1 1;", 0, 0, 1);
        Check.fill(x, 1, 0, 9, 10);
        dueSets("drowned by then, and ahead", x, 3, 7);
        LieSlides y = withSaid("facts 0 8;house hut 14 0 1 1;", 0, 0, 0);
        Check.fill(y, 1, 0, 15);
        dueSets("up to the end", y, 3, 1, 2, 3, 4, 5, 6, 7);
    }

    /** "from as all stands": what was slid and undone is seen. */
    private static void asAllStandsNow() {
        LieSlides x = withSaid("facts 0 15;house hut 0 0 1 1;", 0, 0);
        Check.fill(x, 1, 0, 2);
        dueSets("from X 0", x, 2, 3);
        x.say(0, 1);
        dueSets("from X 1", x, 2, 1, 2);
        x.say(0, 1);
        dueSets("from X 2", x, 2, 0);
        x.say(0, 1);
        dueSets("from X 3", x, 2);
        x.undo();
        dueSets("from X 2 again", x, 2, 0);
        x.image(0);
        x.say(0, 1);
        x.restore(0);
        dueSets("from the image", x, 2, 0);
    }

    /** "of these sets one of fewest, of several the least". */
    private static void fewest() {
        LieSlides x = withSaid("facts 0 15;house hut 0 0 1 1;", 0, 0, 0, 0, 0, 0, 0, 0);
        x.row(1, 0, 1);
        for (int at = 0; at <= 8; at++) {
            x.set(1, 0, at);
            Check.due("the least of several", x.guess(0, 8, 1, 0), (1 << at) - 1);
        }
        // by waiting, 0 pushes 1 itself
        LieSlides y = withSaid("facts 0 15;house hut 2 0 2 1;house hut 4 0 1 1;", 1, 1, 0, 1);
        Check.fill(y, 1, 0, 3, 6);
        dueSets("sets", y, 4, 7, 12, 13, 14);
        Check.due("fewer, though another set is less", y.guess(0, 4, 1, 0), 12);
        Check.fill(y, 1, 0, 2, 4);
        Check.due("no lie at all", y.guess(0, 4, 1, 0), 0);
    }

    /** "those that are in all of them (bits)". */
    private static void sure() {
        LieSlides x = withSaid("facts 0 15;house hut 0 0 1 1;house hut 0 1 1 1;", 0, 0, 1, 0, 0, 0, 0, 1);
        Check.fill(x, 1, 0, 0, 2);
        Check.due("two of eight, the last one too", x.guess(0, 8, 1, 1), 132);
        Check.fill(x, 1, 0, 6, 2);
        Check.due("all of eight", x.guess(0, 8, 1, 1), 255);
        Check.fill(x, 1, 0, 3, 1);
        Check.due("none for sure", x.guess(0, 8, 1, 1), 0);
        Check.fill(x, 1, 0, 0, 0);
        Check.due("none, since nobody lied", x.guess(0, 8, 1, 1), 0);
        Check.fill(x, 1, 0, 1, 1);
        Check.due("one of one", x.guess(0, 3, 1, 1), 4);
        Check.fill(x, 1, 0, 1, 0);
        Check.due("n 1", x.guess(0, 1, 1, 1), 1);
    }

    /** "parted most evenly (.. the greater of both parts is least), of several the first; NONE: .. no saying parts them". */
    private static void question() {
        LieSlides x = withSaid("facts 0 15;wall 2 1;house hut 0 0 1 1;house hut 0 1 1 1;", 0, 1, 1, 0);
        Check.fill(x, 1, 0, 1, 1);
        // 0: one of sayings 0, 3; 1: any of sayings 1, 2 or both
        dueSets("sets", x, 4, 3, 5, 7, 10, 12, 14);
        Check.due("3 and 3 by the first", x.guess(0, 4, 1, 2), 0);
        LieSlides y = withSaid("facts 0 15;wall 2 1;house hut 0 0 1 1;house hut 0 1 1 1;", 1, 1, 1, 0, 0);
        Check.fill(y, 1, 0, 1, 1);
        Check.due("7 times 2 sets", y.lies(0, 5, 1, -1), 14);
        Check.due("7 and 7 by a later one; 8 and 6 by the first", y.guess(0, 5, 1, 2), 3);
        Check.fill(y, 1, 0, 2, 1);
        Check.due("the last two are sure: 4 and 3 by the first", y.guess(0, 5, 1, 2), 0);
        Check.fill(y, 1, 0, 1, 0);
        dueSets("two sets", y, 5, 8, 16);
        Check.due("the first three part nothing", y.guess(0, 5, 1, 2), 3);
        Check.fill(y, 1, 0, 2, 0);
        dueSets("one set", y, 5, 24);
        Check.due("no saying parts one set", y.guess(0, 5, 1, 2), NONE);
        LieSlides z = withSaid("facts 0 15;wall 1 1;house hut 0 0 1 1;house hut 0 1 1 1;", 0, 0, 0, 0, 0, 0, 0, 1);
        Check.fill(z, 1, 0, 0, 0);
        dueSets("the last alone", z, 8, 0, 128);
        Check.due("saying 7", z.guess(0, 8, 1, 2), 7);
        Check.due("not of seven", z.guess(0, 7, 1, 2), NONE);
    }

    /** "NONE: no set fits". */
    private static void noSetFits() {
        LieSlides x = withSaid("facts 0 15;house hut 3 0 1 1;", 0, 0, 0);
        Check.fill(x, 1, 0, 2);
        for (int what = 0; what < 3; what++) {
            Check.due("west of it, " + what, x.guess(0, 3, 1, what), NONE);
        }
        Check.due("how many", x.lies(0, 3, 1, -1), 0);
        Check.due("the 0th", x.lies(0, 3, 1, 0), NONE);
        Check.fill(x, 1, 0, 7);
        for (int what = 0; what < 3; what++) {
            Check.due("too far east, " + what, x.guess(0, 3, 1, what), NONE);
        }
        Check.due("NONE is no finding", x.status(), 0);
    }

    /** "FORETOLD (nothing changes)". */
    private static void nothingChanges() {
        LieSlides x = changed(false);
        LieSlides y = changed(true);
        String got = Probe.of(y);
        String want = Probe.of(x);
        Check.due("nothing changes: " + got + "\n" + want, got.equals(want) ? 1 : 0, 1);
    }

    private static LieSlides changed(boolean foretell) {
        LieSlides x = withSaid("facts 0 9;house hut 0 0 1 1;house inn 2 0 1 1;house mill 4 2 2 2;", 0, 1, 2, 0);
        Check.fill(x, 1, 0, 2, 4, 5);
        x.say(0, 1);
        x.image(1);
        x.say(2, 1);
        x.ask(1, 0);
        if (foretell) {
            for (int i = -1; i < 3; i++) {
                x.lies(0, 4, 1, i);
                x.wanted(1, 5, i);
            }
            for (int what = 0; what < 3; what++) {
                x.guess(0, 4, 1, what);
                x.brook(what);
            }
        }
        return x;
    }

    private static void dueWanted(LieSlides x, int house, int at, int... whose) {
        Check.due("wanted(" + house + ", " + at + ", -1)", x.wanted(house, at, -1), whose.length);
        for (int k = 0; k < whose.length; k++) {
            Check.due("wanted(" + house + ", " + at + ", " + k + ")", x.wanted(house, at, k), whose[k]);
        }
        Check.due("wanted(" + house + ", " + at + ", " + whose.length + ")", x.wanted(house, at, whose.length), NONE);
    }

    /** "a HOUSE has X or more": where it has it already there is no lie. */
    private static void wantedNoLies() {
        LieSlides x = Check.with("facts 0 8;house hut 5 0 1 1;house hut 15 7 1 1;");
        for (int at = 0; at <= 5; at++) {
            dueWanted(x, 0, at);
        }
        dueWanted(x, 0, 6, 0);
        for (int at = 0; at <= 15; at++) {
            dueWanted(x, 1, at);
        }
    }

    /** "the fewest LIES (0 to 4)". */
    private static void wantedFourLies() {
        LieSlides x = Check.with("facts 0 15;house hut 0 0 1 1;house inn 9 3 1 1;");
        dueWanted(x, 0, 1, 0);
        dueWanted(x, 0, 2, 0, 0);
        dueWanted(x, 0, 3, 0, 0, 0);
        dueWanted(x, 0, 4, 0, 0, 0, 0);
        for (int at = 5; at <= 15; at++) {
            Check.due("five are too many, X " + at, x.wanted(0, at, -1), NONE);
            Check.due("five are too many, X " + at, x.wanted(0, at, 0), NONE);
        }
        dueWanted(x, 1, 13, 1, 1, 1, 1);
        Check.due("five", x.wanted(1, 14, -1), NONE);
    }

    private static void wantedX() {
        LieSlides x = Check.with("facts 0 15;house hut 11 0 1 1;");
        Check.due("X 0", x.wanted(0, 0, -1), 0);
        Check.due("X 15", x.wanted(0, 15, -1), 4);
        Check.due("X -1", x.wanted(0, -1, -1), LieSlides.BAD);
        Check.due("X 16", x.wanted(0, 16, -1), LieSlides.BAD);
        LieSlides y = Check.with("facts 0 15;wall 14 0;house hut 11 0 1 1;house inn 11 4 4 1;");
        dueWanted(y, 0, 13, 0, 0);
        Check.due("a wall", y.wanted(0, 14, -1), NONE);
        Check.due("it is drowned at X 12", y.wanted(1, 12, -1), 1);
        Check.due("the end", y.wanted(1, 13, -1), NONE);
    }

    /** "how many (k = -1), whose the k-th; NONE". */
    private static void wantedK() {
        LieSlides x = Check.with("facts 0 15;house hut 3 0 1 1;");
        Check.due("k -2", x.wanted(0, 5, -2), LieSlides.BAD);
        Check.due("k -1", x.wanted(0, 5, -1), 2);
        Check.due("k 0", x.wanted(0, 5, 0), 0);
        Check.due("k 1", x.wanted(0, 5, 1), 0);
        Check.due("k 2", x.wanted(0, 5, 2), NONE);
        Check.due("k 3", x.wanted(0, 5, 3), NONE);
        Check.due("k 4", x.wanted(0, 5, 4), NONE);
        Check.due("k most", x.wanted(0, 5, Integer.MAX_VALUE), NONE);
        Check.due("k 3 of four", x.wanted(0, 7, 3), 0);
        Check.due("k 4 of four", x.wanted(0, 7, 4), NONE);
        Check.due("k 0 of none", x.wanted(0, 3, 0), NONE);
        Check.due("k 0, too far", x.wanted(0, 8, 0), NONE);
    }

    /** "of whichever HOUSES, not DROWNED ones". */
    private static void wantedNotDrowned() {
        LieSlides x = Check.with("facts 0 8;house hut 8 0 1 1;");
        Check.due("it is drowned", x.wanted(0, 9, -1), NONE);
        LieSlides y = Check.with("facts 0 8;house hut 8 0 1 1;house inn 7 0 1 1;");
        dueWanted(y, 0, 9, 1);
        Check.due("the other is drowned by its lie", y.wanted(0, 10, -1), NONE);
        LieSlides z = Check.with("facts 0 8;house hut 9 0 1 1;house inn 8 0 1 1;house mill 7 0 1 1;");
        dueWanted(z, 0, 10, 2);
        LieSlides w = Check.with("facts 0 8;house hut 7 0 1 1;");
        dueWanted(w, 0, 8, 0);
        Check.due("drowned by its first lie", w.wanted(0, 9, -1), NONE);
    }

    /** "whose, one after another, the first row by numbers". */
    private static void wantedFirstRow() {
        LieSlides x = Check.with("facts 0 15;house hut 2 0 1 1;house hut 3 0 1 1;house hut 4 0 1 1;");
        dueWanted(x, 2, 6, 0, 0);
        dueWanted(x, 2, 8, 0, 0, 0, 0);
        dueWanted(x, 1, 5, 0, 0);
        LieSlides y = Check.with("facts 0 15;house hut 4 0 1 1;house hut 3 0 1 1;house hut 2 0 1 1;");
        dueWanted(y, 0, 6, 0, 0);
        dueWanted(y, 1, 5, 1, 1);
        // 0 cannot push any more once it is at the wall
        LieSlides z = Check.with("facts 0 15;wall 3 1;house hut 1 0 1 2;house inn 2 0 1 1;");
        dueWanted(z, 1, 4, 0, 1);
        // of two that push only one is in the way of none
        LieSlides w = Check.with("facts 0 15;wall 8 2;house judge 3 2 1 1;house hut 3 1 1 1;house inn 4 1 1 2;");
        dueWanted(w, 2, 7, 0, 0, 0);
        Check.due("the wall", w.wanted(2, 8, -1), NONE);
    }

    /** All of the six are tried, and no more than these. */
    private static void wantedOfSixHouses() {
        LieSlides x = Check.with("facts 0 15;wall 1 5;house hut 0 5 1 1;house hut 0 0 1 1;house hut 0 1 1 1;house hut 0 2 1 1;"
                + "house hut 0 3 1 1;house hut 11 7 1 1;");
        dueWanted(x, 5, 15, 5, 5, 5, 5);
        Check.due("none of six", x.wanted(0, 1, -1), NONE);
        Check.due("none of six by four", x.wanted(1, 5, -1), NONE);
        LieSlides y = Check.with("facts 0 8;house inn 8 0 1 1;house hut 15 1 1 1;house hut 15 2 1 1;house hut 15 3 1 1;"
                + "house hut 15 4 1 1;house hut 7 0 1 1;");
        dueWanted(y, 0, 9, 5);
    }

    /** BROOK of one that is drowned already: no lie. */
    private static void brookNoLies() {
        LieSlides x = Check.with("facts 0 8;wall 9 0;house hut 8 0 1 1;house hut 15 1 1 1;house hut 5 2 4 1;");
        for (int h = 0; h < 3; h++) {
            Check.due("drowned already", x.brook(h), 0);
        }
    }

    private static void brookOneToFifteen() {
        for (int at = 0; at <= 14; at++) {
            LieSlides x = Check.with("facts 0 15;house hut " + at + " 0 1 1;");
            Check.due("from X " + at, x.brook(0), 15 - at);
        }
        for (int wide = 1; wide <= 4; wide++) {
            LieSlides x = Check.with("facts 0 8;house hut 0 0 " + wide + " 3;");
            Check.due("WIDE " + wide, x.brook(0), 9 - wide);
            x.say(0, 1);
            Check.due("one less", x.brook(0), 8 - wide);
        }
    }

    /** "NONE: a wall, or the end, stops it ahead of that". */
    private static void brookStopped() {
        for (int wall = 1; wall <= 9; wall++) {
            LieSlides x = Check.with("facts 0 8;wall " + wall + " 2;house hut 0 0 1 3;");
            Check.due("a wall at X " + wall, x.brook(0), wall <= 8 ? NONE : 8);
        }
        // what it pushes comes to a wall, or to the end
        LieSlides y = Check.with("facts 0 8;wall 10 0;house hut 6 0 1 1;house inn 7 0 2 1;house hut 4 1 2 1;house inn 6 1 4 1;"
                + "house inn 10 1 3 1;house inn 13 1 2 1;");
        Check.due("a wall ahead of the pushed one", y.brook(0), NONE);
        Check.due("the end", y.brook(2), NONE);
        LieSlides z = Check.with("facts 0 8;wall 10 0;house hut 7 0 1 1;house inn 8 0 1 1;house hut 4 1 3 1;house inn 7 1 4 1;"
                + "house inn 11 1 3 1;");
        Check.due("just ahead of the wall", z.brook(0), 1);
        Check.due("just ahead of the end", z.brook(2), 2);
    }

    /** "An IMAGE (0, 1) is kept of the FIELD": each for itself. */
    private static void bothImages() {
        LieSlides x = Check.with("facts 0 15;house hut 0 0 1 1;");
        Check.due("none kept", x.restore(0), LieSlides.STATE);
        Check.due("none kept", x.restore(1), LieSlides.STATE);
        Check.due("image 0", x.image(0), 1);
        Check.due("1 is none yet", x.restore(1), LieSlides.STATE);
        x.say(0, 1);
        Check.due("image 1", x.image(1), 1);
        x.say(0, 1);
        Check.due("image -1", x.image(-1), LieSlides.BAD);
        Check.due("image 2", x.image(2), LieSlides.BAD);
        for (int round = 0; round < 2; round++) {
            Check.due("restore 0", x.restore(0), 1);
            Check.due("X", x.house(0, 0), 0);
            Check.due("lies", x.house(0, 8), 0);
            x.say(0, 1);
            x.say(0, 1);
            Check.due("restore 1", x.restore(1), 1);
            Check.due("X", x.house(0, 0), 1);
            Check.due("lies", x.house(0, 8), 1);
        }
        x.say(0, 1);
        x.say(0, 1);
        Check.due("in place of the one before", x.image(0), 1);
        x.say(0, 1);
        x.restore(0);
        Check.due("X", x.house(0, 0), 3);
    }

    private static void imageOfAnotherField() {
        LieSlides x = Check.with("facts 2 9;wall 3 3;path 4 1 2;house shop 0 0 2 2;house mill 4 4 1 1;");
        x.image(1);
        Check.read(x, SIX);
        x.say(5, 1);
        x.restore(1);
        Check.due("houses", x.count(1), 2);
        Check.due("walls", x.count(2), 1);
        Check.due("kind", x.kind(1), 3);
        Check.due("path", x.cell(1 + 64), -2);
        Check.due("brook", x.cell(9), -3);
        Check.due("clay", x.cell(8), -4);
        Check.due("fact 1 is so", x.say(0, 3), 0);
        Check.due("fact 0 is not", x.say(0, 1), 1);
        Check.due("house 5 is none", x.house(5, 0), LieSlides.BAD);
    }

    /** "(no SAYING can be undone then)". */
    private static void restoreForgetsSayings() {
        LieSlides x = Check.with("facts 0 15;house hut 0 0 1 1;");
        x.say(0, 1);
        x.say(0, 0);
        Check.due("two", x.count(3), 2);
        x.image(0);
        Check.due("an image forgets none", x.count(3), 2);
        x.restore(0);
        Check.due("none", x.count(3), 0);
        Check.due("undo", x.undo(), LieSlides.STATE);
        Check.due("the lie was told", x.count(4), 1);
        x.say(0, 1);
        Check.due("one", x.count(3), 1);
        Check.due("undone", x.undo(), 0);
        Check.due("X", x.house(0, 0), 1);
        x.say(0, 1);
        Check.due("a refused restore forgets none", x.restore(1), LieSlides.STATE);
        Check.due("one yet", x.count(3), 1);
    }
}
