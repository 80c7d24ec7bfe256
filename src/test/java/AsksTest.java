/** Promises 20 to 25: kind, as, ask, trace, count, status. */
public final class AsksTest {
    private static final String FIVE = "facts 0 15;house hut 0 0 1 1;house judge 2 0 2 3;house inn 3 4 4 2;house mill 8 0 3 1;"
            + "house shop 1 6 2 2;house hut 5 6 3 1;";

    public static void main(String[] args) {
        kinds();
        asks();
        traces();
        counts();
        statuses();
        Check.end();
    }

    private static void kinds() {
        LieSlides x = Check.with(FIVE);
        int[] kinds = {5, 1, 2, 3, 4, 5};
        // bits: the kinds that each kind is
        int[] is = {1, 3, 5, 13, 21, 53};
        for (int h = 0; h < 6; h++) {
            Check.due("kind(" + h + ")", x.kind(h), kinds[h]);
            for (int kind = 0; kind < 6; kind++) {
                boolean one = (is[kinds[h]] >> kind & 1) == 1;
                Check.due("as(" + h + ", " + kind + ")", x.as(h, kind), one ? h : Check.KIND);
                Check.due("status", x.status(), one ? 0 : 3);
            }
        }
        Check.due("kind 6", x.as(0, 6), LieSlides.BAD);
        Check.due("kind -1", x.as(0, -1), LieSlides.BAD);
        Check.due("house 6", x.as(6, 0), LieSlides.BAD);
        Check.due("house -1", x.as(-1, 0), LieSlides.BAD);
        Check.due("without a field", new LieSlides().as(0, 0), LieSlides.BAD);
    }

    private static void dueAsk(LieSlides x, int house, int what, int answer, int... trace) {
        Check.due("ask(" + house + ", " + what + ")", x.ask(house, what), answer);
        Check.dueAll("trace of ask(" + house + ", " + what + ")", Check.trace(x), trace);
    }

    private static void asks() {
        LieSlides x = Check.with(FIVE);
        dueAsk(x, 1, 0, 6 - 100, 13, 10);
        dueAsk(x, 1, 1, 1 + 94, 23, 20, 13, 10);
        dueAsk(x, 2, 0, 8 + 5, 11, 10, 21, 20);
        dueAsk(x, 2, 1, 5, 21, 20);
        dueAsk(x, 3, 0, -(3 + 11), 12, 11, 10, 21, 20);
        dueAsk(x, 3, 1, 11, 21, 20);
        dueAsk(x, 4, 0, 4 + 5 - 1000, 11, 10, 22, 21, 20);
        dueAsk(x, 4, 1, 5 - 1000, 22, 21, 20);
        dueAsk(x, 5, 0, 2 * (3 + 2 * (10 - 1000)), 14, 11, 10, 24, 22, 21, 20);
        dueAsk(x, 5, 1, 2 * (10 - 1000), 24, 22, 21, 20);
        dueAsk(x, 0, 1, -2000, 24, 22, 21, 20);
        x.say(2, 1);
        dueAsk(x, 2, 1, 6, 21, 20);
    }

    private static void traces() {
        LieSlides x = Check.with(FIVE);
        x.ask(2, 1);
        Check.due("ask 2", x.ask(0, 2), LieSlides.BAD);
        Check.due("ask -1", x.ask(0, -1), LieSlides.BAD);
        Check.due("house 6", x.ask(6, 0), LieSlides.BAD);
        Check.due("house -1", x.ask(-1, 0), LieSlides.BAD);
        Check.dueAll("what is refused leaves the trace", Check.trace(x), 21, 20);
        Check.due("trace -1", x.trace(-1), LieSlides.NONE);
        Check.due("trace least", x.trace(Integer.MIN_VALUE), LieSlides.NONE);
        Check.due("trace 2", x.trace(2), LieSlides.NONE);
        Check.due("trace 16", x.trace(16), LieSlides.NONE);
        Check.due("trace most", x.trace(Integer.MAX_VALUE), LieSlides.NONE);
        x.status();
        x.count(0);
        Check.due("the trace stays", x.trace(0), 21);
    }

    private static void counts() {
        LieSlides x = Check.with("facts 0 9;wall 15 0;wall 15 1;wall 15 0;house inn 2 0 2 2;house hut 9 0 1 1;house hut 3 5 1 2;");
        x.row(2, 0, 1);
        x.row(5, 1, 3);
        x.row(5, 2, 4);
        Check.feed(x, "facts 0 8;x");
        x.say(0, 1);
        x.say(2, 0);
        x.say(2, 1);
        int[] due = {2, 3, 2, 3, 2, 3 * 4 + 4 * 2, 11};
        for (int what = 0; what < due.length; what++) {
            Check.due("count(" + what + ")", x.count(what), due[what]);
        }
        Check.due("count(7)", x.count(7), LieSlides.BAD);
        Check.due("count(-1)", x.count(-1), LieSlides.BAD);
    }

    private static void statuses() {
        LieSlides x = Check.with(FIVE);
        Check.due("none yet", x.status(), 0);
        x.as(0, 1);
        Check.due("KIND", x.status(), 3);
        x.say(0, 1);
        x.say(0, 99);
        x.house(0, 0);
        x.cell(0);
        x.feed(0, 1);
        x.feed(0, 0);
        x.field();
        x.undo();
        x.undo();
        x.wanted(0, 0, 0);
        x.brook(0);
        x.image(0);
        x.restore(1);
        x.ask(0, 0);
        x.count(9);
        x.kind(9);
        Check.due("calls without a row leave it", x.status(), 3);
        x.as(0, 9);
        x.row(0, 9, 0);
        x.talk(9, 0, 1);
        x.lies(9, 1, 0, 0);
        Check.due("BAD leaves it", x.status(), 3);
        x.row(0, 2, -1);
        Check.due("SIZE", x.status(), 4);
        x.drop(0);
        Check.due("NULL", x.status(), 1);
        x.row(0, 2, 6);
        Check.due("none", x.status(), 0);
        x.row(1, 1, 6);
        x.copy(0, 0, 1, 0, 1);
        Check.due("STORE", x.status(), 5);
        x.lies(0, 1, 1, 5);
        Check.due("NONE is no finding", x.status(), 0);
        x.set(0, 6, 0);
        Check.due("PLACE", x.status(), 2);
        x.talk(0, 0, 1);
        Check.due("talk clears it", x.status(), 0);
        x.set(0, 6, 0);
        x.guess(0, 1, 1, 0);
        Check.due("guess clears it", x.status(), 0);
        x.set(0, 6, 0);
        x.as(0, 0);
        Check.due("as clears it", x.status(), 0);
    }
}
