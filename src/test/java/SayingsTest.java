/** Promises 9, 10, 11: say, talk, undo. */
public final class SayingsTest {
    public static void main(String[] args) {
        claims();
        pushing();
        stopped();
        drowned();
        talking();
        talkRefused();
        undoing();
        oldestForgotten();
        Check.end();
    }

    private static void claims() {
        LieSlides x = Check.with("facts 165 15;house hut 0 0 1 1;");
        for (int claim = 0; claim < 16; claim++) {
            boolean so = (165 >> claim / 2 & 1) == 1;
            boolean said = claim % 2 == 1;
            Check.due("claim " + claim, x.say(0, claim), so == said ? 0 : 1);
        }
        Check.due("eight lies", x.house(0, 8), 8);
        Check.due("eight yards", x.house(0, 0), 8);
        Check.due("sixteen sayings", x.count(3), 16);
        Check.due("claim 16", x.say(0, 16), LieSlides.BAD);
        Check.due("claim -1", x.say(0, -1), LieSlides.BAD);
        Check.due("house 1", x.say(1, 0), LieSlides.BAD);
        Check.due("house -1", x.say(-1, 0), LieSlides.BAD);
        Check.due("sixteen yet", x.count(3), 16);
        Check.due("without a field", new LieSlides().say(0, 0), LieSlides.BAD);
    }

    private static void pushing() {
        // 0 pushes 1 by their common row, 1 pushes 2 below, 3 is above and is not touched
        LieSlides x = Check.with("facts 0 15;house hut 0 1 2 2;house inn 2 2 1 2;house mill 3 3 2 1;house shop 2 0 1 1;"
                + "house hut 6 3 1 1;");
        Check.due("three slide", x.say(0, 1), 7);
        Check.dueAll("stands", Check.xs(x), 1, 3, 4, 2, 6);
        Check.due("now the last too", x.say(0, 1), 23);
        Check.dueAll("stands", Check.xs(x), 2, 4, 5, 2, 7);
        Check.due("from the middle", x.say(2, 1), 20);
        Check.dueAll("stands", Check.xs(x), 2, 4, 6, 2, 8);
        Check.due("nobody ahead", x.say(3, 1), 8);
        Check.due("lies of 0", x.house(0, 8), 2);
        Check.due("lies of 2", x.house(2, 8), 1);
        Check.due("lies in all", x.count(4), 4);
        // a fork: two houses in the way, and what is in the way of these
        LieSlides y = Check.with("facts 0 15;house hut 0 0 1 3;house inn 1 0 1 1;house inn 1 2 2 1;house hut 3 2 1 1;"
                + "house hut 3 1 1 1;");
        Check.due("a fork", y.say(0, 1), 15);
    }

    private static void stopped() {
        LieSlides x = Check.with("facts 0 15;wall 4 1;house hut 0 0 2 2;house inn 2 1 2 1;house hut 2 0 1 1;");
        Check.due("a wall ahead of the second stops all", x.say(0, 1), 0);
        Check.dueAll("stands", Check.xs(x), 0, 2, 2);
        Check.due("it was a lie", x.house(0, 8), 1);
        Check.due("it can be undone", x.count(3), 1);
        Check.due("the third is free", x.say(2, 1), 4);
        Check.due("undone", x.undo(), 1);
        Check.due("undone", x.undo(), 0);
        Check.due("no lie left", x.count(4), 0);
        LieSlides y = Check.with("facts 0 15;house hut 11 4 2 1;house inn 13 4 3 1;");
        Check.due("the end stops", y.say(0, 1), 0);
        LieSlides z = Check.with("facts 0 15;house hut 11 4 2 1;house inn 13 4 2 1;");
        Check.due("a yard to the end", z.say(0, 1), 3);
        Check.due("the pushed one is drowned", z.house(1, 4), 1);
        Check.due("the end", z.say(0, 1), 0);
        LieSlides w = Check.with("facts 0 15;wall 1 2;wall 1 5;house hut 0 3 1 2;");
        Check.due("walls beside its rows stop nothing", w.say(0, 1), 1);
    }

    private static void drowned() {
        LieSlides x = Check.with("facts 0 8;house hut 6 0 2 1;house inn 8 0 1 1;");
        Check.due("in the brook", x.say(1, 1), LieSlides.STATE);
        Check.due("a truth there", x.say(1, 0), LieSlides.STATE);
        Check.due("BAD ahead of STATE", x.say(1, 16), LieSlides.BAD);
        Check.due("no saying", x.count(3), 0);
        Check.due("not drowned yet", x.house(0, 4), 0);
        Check.due("it is pushed", x.say(0, 1), 3);
        Check.due("drowned by a cell", x.house(0, 4), 1);
        Check.due("its rent", x.house(0, 7), 0);
        Check.due("said no more", x.say(0, 1), LieSlides.STATE);
        Check.due("undone", x.undo(), 0);
        Check.due("dry again", x.house(0, 4), 0);
        Check.due("its rent again", x.house(0, 7), 12);
    }

    private static void talking() {
        LieSlides x = Check.with("facts 2 8;house hut 5 0 1 1;house inn 0 1 1 1;");
        Check.fill(x, 0, 0, 99, 1, 1, 1, 1, 16 + 2, 16 + 3, 16 + 15, 0);
        Check.due("talk", x.talk(0, 1, 7), 5);
        Check.dueAll("stands", Check.xs(x), 8, 2);
        Check.due("status", x.status(), 0);
        Check.due("passed over are not kept", x.count(3), 6);
        Check.due("lies", x.count(4), 5);
        Check.due("a truth is the latest but one", x.undo(), 5);
        Check.due("stand", x.house(1, 0), 1);
        Check.due("undo a truth", x.undo(), 4);
        Check.due("stand", x.house(1, 0), 1);
        LieSlides z = Check.with("facts 255 15;house hut 0 0 1 1;house hut 0 1 1 1;house hut 0 2 1 1;house hut 0 3 1 1;"
                + "house hut 0 4 1 1;house hut 0 5 1 1;");
        Check.fill(z, 1, 0, 95, 94, 80, 64, 63, 32, 16, 14, 0);
        Check.due("the houses of items", z.talk(1, 0, 9), 7);
        Check.dueAll("stands", Check.xs(z), 2, 1, 1, 0, 1, 2);
        LieSlides y = Check.with("facts 0 15;wall 1 0;house hut 0 0 1 1;house hut 0 1 1 1;");
        Check.fill(y, 7, 2, new int[40]);
        for (int k = 0; k < 40; k++) {
            y.set(7, k, k % 2 * 16 + 1);
        }
        Check.due("those that slid nothing do not count", y.talk(7, 20, 20), 10);
        Check.due("all are kept", y.count(3), 20);
        Check.due("lies by stopped ones", y.house(0, 8), 10);
    }

    private static void talkRefused() {
        LieSlides n = new LieSlides();
        Check.due("STATE ahead of BAD", n.talk(9, 0, 0), LieSlides.STATE);
        LieSlides x = Check.with("facts 0 15;house hut 0 0 1 1;house hut 0 1 1 1;");
        Check.due("row 8", x.talk(8, 0, 1), LieSlides.BAD);
        Check.due("row -1", x.talk(-1, 0, 1), LieSlides.BAD);
        Check.due("n 0", x.talk(0, 0, 0), LieSlides.BAD);
        Check.due("n 21", x.talk(0, 0, 21), LieSlides.BAD);
        Check.due("status 0", x.status(), 0);
        Check.due("missing", x.talk(0, 0, 1), Check.NULL_ROW);
        Check.due("status NULL", x.status(), 1);
        Check.fill(x, 0, 1, 1, 1, 32, -1, 17, 31);
        Check.due("beyond the end", x.talk(0, 5, 2), Check.PLACE);
        Check.due("status PLACE", x.status(), 2);
        Check.due("i below 0", x.talk(0, -1, 2), Check.PLACE);
        Check.due("i most", x.talk(0, Integer.MAX_VALUE, 20), Check.PLACE);
        Check.due("no such house", x.talk(0, 0, 3), LieSlides.BAD);
        Check.due("below 0", x.talk(0, 3, 2), LieSlides.BAD);
        Check.due("BAD leaves status", x.status(), 2);
        Check.due("nothing was said", x.count(3), 0);
        Check.dueAll("stands", Check.xs(x), 0, 0);
        Check.due("those that are some", x.talk(0, 4, 2), 2);
        Check.due("status 0", x.status(), 0);
    }

    private static void undoing() {
        LieSlides x = Check.with("facts 0 15;house hut 0 0 1 1;house inn 1 0 1 1;");
        Check.due("none", x.undo(), LieSlides.STATE);
        x.say(0, 1);
        x.say(1, 1);
        x.say(0, 0);
        Check.due("a truth", x.undo(), 2);
        Check.dueAll("stands", Check.xs(x), 1, 3);
        Check.due("a lie", x.undo(), 1);
        Check.dueAll("stands", Check.xs(x), 1, 2);
        Check.due("lies of 1", x.house(1, 8), 0);
        Check.due("lies of 0", x.house(0, 8), 1);
        Check.due("a lie that pushed", x.undo(), 0);
        Check.dueAll("stands", Check.xs(x), 0, 1);
        Check.due("none again", x.undo(), LieSlides.STATE);
    }

    private static void oldestForgotten() {
        LieSlides x = Check.with("facts 0 15;house hut 0 0 1 1;");
        x.say(0, 1);
        x.say(0, 1);
        x.say(0, 1);
        for (int k = 0; k < 23; k++) {
            x.say(0, 0);
        }
        Check.due("24 are kept", x.count(3), 24);
        for (int k = 23; k >= 0; k--) {
            Check.due("undone", x.undo(), k);
        }
        Check.due("none", x.undo(), LieSlides.STATE);
        Check.due("two lies cannot be undone", x.house(0, 0), 2);
        Check.due("but were told", x.house(0, 8), 2);
    }
}
