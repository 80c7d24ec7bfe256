/** All that calls can tell of an object but status(), as one text. It uses the object up. */
final class Probe {
    private static final int SPARE = 6, ZEROS = 7;
    private final StringBuilder told = new StringBuilder();
    private final LieSlides x;

    private Probe(LieSlides x) {
        this.x = x;
    }

    static String of(LieSlides x) {
        Probe p = new Probe(x);
        p.tell("fault", x.fault());
        p.trace();
        p.counts();
        p.houses(9);
        p.cells();
        p.sayings();
        p.images();
        p.tape();
        p.rows();
        return p.told.toString();
    }

    private void tell(String what, int answer) {
        told.append(what).append('=').append(answer).append(' ');
    }

    private void trace() {
        for (int i = 0; i < 17 && x.trace(i) != LieSlides.NONE; i++) {
            tell("trace" + i, x.trace(i));
        }
    }

    private void counts() {
        for (int what = 0; what < 7; what++) {
            tell("count" + what, x.count(what));
        }
    }

    private void houses(int whats) {
        for (int h = 0; h < x.count(1); h++) {
            for (int what = 0; what < whats; what++) {
                tell("house" + h + "." + what, x.house(h, what));
            }
            tell("lies in " + h, x.house(h, 8));
            tell("kind" + h, x.kind(h));
        }
    }

    private void cells() {
        for (int cell = 0; cell < 128; cell++) {
            tell("cell" + cell, x.cell(cell));
        }
    }

    private void sayings() {
        for (int left = x.undo(); left >= 0; left = x.undo()) {
            tell("undone, left", left);
            for (int h = 0; h < x.count(1); h++) {
                tell("X" + h, x.house(h, 0));
                tell("lies" + h, x.house(h, 8));
            }
        }
    }

    private void images() {
        for (int k = 0; k < 2; k++) {
            tell("restore" + k, x.restore(k));
            counts();
            houses(1);
        }
    }

    private void tape() {
        tell("field", x.field());
        tell("its fault", x.fault());
        houses(1);
    }

    /** Rows 6 and 7 are to be missing: they are needed to see the others. */
    private void rows() {
        tell("row 6", x.drop(SPARE));
        tell("row 7", x.drop(ZEROS));
        Check.read(x, "facts 0 15;house hut 0 0 1 1;");
        x.row(ZEROS, 0, 8);
        for (int row = 0; row < SPARE; row++) {
            for (int lane = 0; lane < 3; lane++) {
                x.row(SPARE, lane, 1);
                int fits = x.copy(row, 0, SPARE, 0, 0);
                tell("row" + row + " as lane " + lane, fits);
                if (fits == 0) {
                    items(row);
                }
            }
        }
    }

    /** Of eight lies the least set that brings a house from 0 to v has the v lowest bits. */
    private void items(int row) {
        int i = 0;
        while (i < 40 && x.copy(row, i, SPARE, 0, 1) == 1) {
            tell("item" + i, x.lies(ZEROS, 8, SPARE, 0));
            i++;
        }
        tell("items of row" + row, x.drop(row));
    }
}
