import java.util.ArrayDeque;
import java.util.ArrayList;
import java.util.Deque;
import java.util.HashMap;
import java.util.HashSet;
import java.util.List;
import java.util.Map;
import java.util.Set;
import java.util.regex.Matcher;
import java.util.regex.Pattern;

/** The document once more, written in the slowest and most literal way, to compare with. */
final class Model {
    private static final int NONE = -1000000, BAD = -1000001, STATE = -1000002, FULL = -1000003;

    /** A token, or the end, that has a fault. */
    private static final class Fault extends RuntimeException {
        private static final long serialVersionUID = 1;
        final int place;
        final int number;

        Fault(int place, int number) {
            this.place = place;
            this.number = number;
        }
    }

    private static class House {
        int number, x, y, wide, high, lies;

        int kind() {
            return 0;
        }

        int size(List<Integer> trace) {
            trace.add(10);
            return cells().size();
        }

        int mark(List<Integer> trace) {
            trace.add(20);
            return number;
        }

        Set<Integer> cells() {
            Set<Integer> cells = new HashSet<>();
            for (int cx = x; cx < x + wide; cx++) {
                for (int cy = y; cy < y + high; cy++) {
                    cells.add(100 * cy + cx);
                }
            }
            return cells;
        }

        House twin() {
            House twin = House.of(kind());
            twin.number = number;
            twin.x = x;
            twin.y = y;
            twin.wide = wide;
            twin.high = high;
            twin.lies = lies;
            return twin;
        }

        static House of(int kind) {
            House[] kinds = {new House(), new Judge(), new Inn(), new Mill(), new Shop(), new Hut()};
            return kinds[kind];
        }
    }

    private static final class Judge extends House {
        @Override int kind() {
            return 1;
        }

        @Override int size(List<Integer> trace) {
            trace.add(13);
            return super.size(trace) - 100;
        }

        @Override int mark(List<Integer> trace) {
            trace.add(23);
            return super.mark(trace) - size(trace);
        }
    }

    private static class Inn extends House {
        @Override int kind() {
            return 2;
        }

        @Override int size(List<Integer> trace) {
            trace.add(11);
            return super.size(trace) + mark(trace);
        }

        @Override int mark(List<Integer> trace) {
            trace.add(21);
            return super.mark(trace) + x;
        }
    }

    private static final class Mill extends Inn {
        @Override int kind() {
            return 3;
        }

        @Override int size(List<Integer> trace) {
            trace.add(12);
            return 0 - super.size(trace);
        }
    }

    private static class Shop extends Inn {
        @Override int kind() {
            return 4;
        }

        @Override int mark(List<Integer> trace) {
            trace.add(22);
            return super.mark(trace) - 1000;
        }
    }

    private static final class Hut extends Shop {
        @Override int kind() {
            return 5;
        }

        @Override int size(List<Integer> trace) {
            trace.add(14);
            return super.size(trace) * 2;
        }

        @Override int mark(List<Integer> trace) {
            trace.add(24);
            return super.mark(trace) * 2;
        }
    }

    private static final class Land {
        final boolean[] so = new boolean[8];
        int brook;
        final Set<Integer> walls = new HashSet<>();
        final Set<Integer> paths = new HashSet<>();
        final List<House> houses = new ArrayList<>();

        Land twin() {
            Land twin = new Land();
            System.arraycopy(so, 0, twin.so, 0, 8);
            twin.brook = brook;
            twin.walls.addAll(walls);
            twin.paths.addAll(paths);
            for (House h : houses) {
                twin.houses.add(h.twin());
            }
            return twin;
        }

        House at(int x, int y) {
            for (House h : houses) {
                if (x >= 0 && h.cells().contains(100 * y + x)) {
                    return h;
                }
            }
            return null;
        }

        boolean drowned(House h) {
            for (int cell : h.cells()) {
                if (cell % 100 >= brook) {
                    return true;
                }
            }
            return false;
        }

        /** The houses that slid, as bits. */
        int slide(House liar) {
            Set<House> all = new HashSet<>();
            Deque<House> open = new ArrayDeque<>();
            open.add(liar);
            while (!open.isEmpty()) {
                House h = open.poll();
                if (!all.add(h)) {
                    continue;
                }
                for (int cell : h.cells()) {
                    if ((cell + 1) % 100 > 15 || walls.contains(cell + 1)) {
                        return 0;
                    }
                    House there = at((cell + 1) % 100, cell / 100);
                    if (there != null && there != h) {
                        open.add(there);
                    }
                }
            }
            int bits = 0;
            for (House h : all) {
                h.x++;
                bits |= 1 << h.number;
            }
            return bits;
        }
    }

    private final Map<Integer, int[]> rows = new HashMap<>();
    private final Map<Integer, Integer> lanes = new HashMap<>();
    private final StringBuilder tape = new StringBuilder();
    private Land land = null;
    private final Land[] images = new Land[2];
    private final List<Land> past = new ArrayList<>();
    private List<Integer> trace = new ArrayList<>();
    private int fault = 0;
    private int status = 0;

    private int found(int number) {
        status = number;
        return -1000010 - number;
    }

    private int fine(int answer) {
        status = 0;
        return answer;
    }

    private static boolean in(int v, int least, int most) {
        return v >= least && v <= most;
    }

    int row(int row, int lane, int n) {
        if (!in(row, 0, 7) || !in(lane, 0, 2) || n > 40) {
            return BAD;
        }
        if (n < 0) {
            return found(4);
        }
        rows.put(row, new int[n]);
        lanes.put(row, lane);
        return fine(n);
    }

    int set(int row, int i, int v) {
        if (!in(row, 0, 7)) {
            return BAD;
        }
        int[] items = rows.get(row);
        if (items == null) {
            return found(1);
        }
        if (!in(i, 0, items.length - 1)) {
            return found(2);
        }
        int spare = 32 - (8 << lanes.get(row));
        items[i] = v << spare >> spare;
        return fine(items[i]);
    }

    int copy(int a, int i, int b, int j, int n) {
        if (!in(a, 0, 7) || !in(b, 0, 7)) {
            return BAD;
        }
        int[] from = rows.get(a);
        int[] to = rows.get(b);
        if (from == null || to == null) {
            return found(1);
        }
        if (!lanes.get(a).equals(lanes.get(b))) {
            return found(5);
        }
        if (i < 0 || j < 0 || n < 0 || n > from.length - i || n > to.length - j) {
            return found(2);
        }
        int[] ahead = from.clone();
        for (int k = 0; k < n; k++) {
            to[j + k] = ahead[i + k];
        }
        return fine(n);
    }

    int drop(int row) {
        if (!in(row, 0, 7)) {
            return BAD;
        }
        int[] items = rows.remove(row);
        return items == null ? found(1) : fine(items.length);
    }

    int feed(long w, int n) {
        if (!in(n, 1, 8)) {
            return BAD;
        }
        if (tape.length() + n > 400) {
            return FULL;
        }
        for (int k = n; k > 0; k--) {
            tape.append((char) (w >>> 8 * (k - 1) & 255));
        }
        return tape.length();
    }

    private List<String> words;
    private List<Integer> places;
    private int word;

    private void split(String text) {
        words = new ArrayList<>();
        places = new ArrayList<>();
        word = 0;
        Matcher m = Pattern.compile("[a-z]+|[0-9]+|[^ \n]", Pattern.DOTALL).matcher(text);
        while (m.find()) {
            words.add(m.group());
            places.add(m.start());
        }
        words.add("");
        places.add(text.length());
    }

    private Fault fault(int number) {
        return new Fault(places.get(word), number);
    }

    private boolean isNext(String want) {
        return words.get(word).equals(want);
    }

    private void take(String want) {
        if (!isNext(want)) {
            throw fault(1);
        }
        word++;
    }

    private int number(int least, int most) {
        String w = words.get(word);
        if (!w.matches("[0-9]{1,3}")) {
            throw fault(1);
        }
        if (!in(Integer.parseInt(w), least, most)) {
            throw fault(2);
        }
        word++;
        return Integer.parseInt(w);
    }

    private void roomFor(String w, int told, int most) {
        if (told >= most) {
            throw fault(3);
        }
        take(w);
    }

    private Land parse() {
        Land l = new Land();
        take("facts");
        int truths = number(0, 255);
        for (int k = 0; k < 8; k++) {
            l.so[k] = (truths & 1 << k) != 0;
        }
        l.brook = number(8, 15);
        take(";");
        for (int told = 0; isNext("wall"); told++) {
            roomFor("wall", told, 12);
            int x = number(0, 15);
            l.walls.add(x + 100 * number(0, 7));
            take(";");
        }
        for (int told = 0; isNext("path"); told++) {
            roomFor("path", told, 8);
            int y = number(0, 7);
            int from = number(0, 15);
            int to = number(from, 15);
            for (int x = from; x <= to; x++) {
                l.paths.add(100 * y + x);
            }
            take(";");
        }
        do {
            roomFor("house", l.houses.size(), isNext("house") ? 6 : 99);
            l.houses.add(parseHouse(l));
            take(";");
        } while (word < words.size() - 1);
        return l;
    }

    private House parseHouse(Land l) {
        int kind = List.of("?", "judge", "inn", "mill", "shop", "hut").indexOf(words.get(word));
        if (kind < 1) {
            throw fault(1);
        }
        word++;
        House h = House.of(kind);
        h.number = l.houses.size();
        h.x = number(0, 15);
        h.y = number(0, 7);
        h.wide = number(1, 4);
        h.high = number(1, 3);
        word--;
        for (int cell : h.cells()) {
            if (cell % 100 > 15 || cell / 100 > 7 || l.walls.contains(cell) || l.at(cell % 100, cell / 100) != null) {
                throw fault(2);
            }
        }
        word++;
        return h;
    }

    int field() {
        split(tape.toString());
        tape.setLength(0);
        try {
            land = parse();
        } catch (Fault f) {
            fault = f.number;
            return -1000100 - f.place;
        }
        past.clear();
        return land.houses.size();
    }

    int fault() {
        return fault;
    }

    private boolean isHouse(int house) {
        return land != null && in(house, 0, land.houses.size() - 1);
    }

    private int told(int house, int claim) {
        past.add(land.twin());
        if (past.size() > 24) {
            past.remove(0);
        }
        boolean claimed = claim % 2 == 1;
        if (land.so[claim / 2] == claimed) {
            return 0;
        }
        land.houses.get(house).lies++;
        return land.slide(land.houses.get(house));
    }

    int say(int house, int claim) {
        if (!isHouse(house) || !in(claim, 0, 15)) {
            return BAD;
        }
        return land.drowned(land.houses.get(house)) ? STATE : told(house, claim);
    }

    int talk(int row, int i, int n) {
        if (land == null) {
            return STATE;
        }
        if (!in(row, 0, 7) || !in(n, 1, 20)) {
            return BAD;
        }
        int[] items = rows.get(row);
        if (items == null) {
            return found(1);
        }
        if (i < 0 || n > items.length - i) {
            return found(2);
        }
        for (int k = i; k < i + n; k++) {
            if (!in(items[k], 0, 16 * land.houses.size() - 1)) {
                return BAD;
            }
        }
        int slid = 0;
        for (int k = i; k < i + n; k++) {
            if (!land.drowned(land.houses.get(items[k] / 16)) && told(items[k] / 16, items[k] % 16) != 0) {
                slid++;
            }
        }
        return fine(slid);
    }

    int undo() {
        if (past.isEmpty()) {
            return STATE;
        }
        land = past.remove(past.size() - 1);
        return past.size();
    }

    int house(int house, int what) {
        if (!isHouse(house) || !in(what, 0, 8)) {
            return BAD;
        }
        House h = land.houses.get(house);
        int door = 100 * (h.y + h.high) + h.x;
        boolean open = land.paths.contains(door) && !land.walls.contains(door) && land.at(h.x, h.y + h.high) == null;
        boolean boxed = true;
        for (int y = h.y; y < h.y + h.high; y++) {
            boxed = boxed && land.at(h.x - 1, y) != null && land.at(h.x + h.wide, y) != null;
        }
        int wet = land.drowned(h) ? 1 : 0;
        int[] all = {h.x, h.y, h.wide, h.high, wet, open ? 1 : 0, boxed ? 1 : 0,
            (1 - wet) * h.x * h.wide * h.high, h.lies};
        return all[what];
    }

    int cell(int cell) {
        if (land == null) {
            return STATE;
        }
        if (!in(cell, 0, 127)) {
            return BAD;
        }
        int x = cell % 16;
        int y = cell / 16;
        House h = land.at(x, y);
        if (h != null) {
            return h.number;
        }
        return land.walls.contains(100 * y + x) ? -1 : land.paths.contains(100 * y + x) ? -2 : x >= land.brook ? -3 : -4;
    }

    /** The sets that fit, or a refusal alone, marked by a null ahead of it. */
    private List<Integer> fitting(int said, int n, int stands, boolean right) {
        List<Integer> answer = new ArrayList<>();
        int refusal = 0;
        if (land == null) {
            refusal = STATE;
        } else if (!in(said, 0, 7) || !in(stands, 0, 7) || !in(n, 1, 8) || !right) {
            refusal = BAD;
        } else if (rows.get(said) == null || rows.get(stands) == null) {
            refusal = found(1);
        } else if (rows.get(said).length < n || rows.get(stands).length < land.houses.size()) {
            refusal = found(2);
        }
        for (int k = 0; k < n && refusal == 0; k++) {
            refusal = isHouse(rows.get(said)[k]) ? 0 : BAD;
        }
        if (refusal != 0) {
            answer.add(null);
            answer.add(refusal);
            return answer;
        }
        status = 0;
        for (int set = 0; set < 1 << n; set++) {
            Land l = land.twin();
            for (int k = 0; k < n; k++) {
                if ((set & 1 << k) != 0) {
                    l.slide(l.houses.get(rows.get(said)[k]));
                }
            }
            boolean fits = true;
            for (House h : l.houses) {
                fits = fits && h.x == rows.get(stands)[h.number];
            }
            if (fits) {
                answer.add(set);
            }
        }
        return answer;
    }

    /** For tests that want stands to ask for: those that a set of lies brings about, else what is told. */
    int[] standsAfter(int said, int n, int set, int[] otherwise) {
        Land l = land.twin();
        for (int k = 0; k < n; k++) {
            if (!isHouse(rows.get(said)[k])) {
                return otherwise;
            }
            if ((set & 1 << k) != 0) {
                l.slide(l.houses.get(rows.get(said)[k]));
            }
        }
        int[] stands = new int[l.houses.size()];
        for (House h : l.houses) {
            stands[h.number] = h.x;
        }
        return stands;
    }

    private static boolean isRefusal(List<Integer> sets) {
        return !sets.isEmpty() && sets.get(0) == null;
    }

    int lies(int said, int n, int stands, int i) {
        List<Integer> sets = fitting(said, n, stands, i >= -1);
        if (isRefusal(sets)) {
            return sets.get(1);
        }
        return i == -1 ? sets.size() : i < sets.size() ? sets.get(i) : NONE;
    }

    int guess(int said, int n, int stands, int what) {
        List<Integer> sets = fitting(said, n, stands, in(what, 0, 2));
        if (isRefusal(sets)) {
            return sets.get(1);
        }
        if (sets.isEmpty()) {
            return NONE;
        }
        if (what == 0) {
            sets.sort((a, b) -> Integer.bitCount(a) != Integer.bitCount(b)
                ? Integer.bitCount(a) - Integer.bitCount(b) : a - b);
            return sets.get(0);
        }
        int sure = 0;
        int best = NONE;
        int bestGreater = 1000;
        for (int k = 0; k < n; k++) {
            int with = 0;
            for (int set : sets) {
                with += (set & 1 << k) != 0 ? 1 : 0;
            }
            int without = sets.size() - with;
            sure |= without == 0 ? 1 << k : 0;
            if (with > 0 && without > 0 && Math.max(with, without) < bestGreater) {
                best = k;
                bestGreater = Math.max(with, without);
            }
        }
        return what == 1 ? sure : best;
    }

    private List<Integer> fewest(int house, int x) {
        for (int length = 0; length <= 4; length++) {
            int base = land.houses.size();
            for (int code = 0; code < Math.pow(base, length); code++) {
                List<Integer> row = new ArrayList<>();
                for (int k = 0, left = code; k < length; k++, left /= base) {
                    row.add(0, left % base);
                }
                Land l = land.twin();
                boolean can = true;
                for (int h : row) {
                    can = can && !l.drowned(l.houses.get(h));
                    l.slide(l.houses.get(h));
                }
                if (can && l.houses.get(house).x >= x) {
                    return row;
                }
            }
        }
        return null;
    }

    int wanted(int house, int x, int k) {
        if (!isHouse(house) || !in(x, 0, 15) || k < -1) {
            return BAD;
        }
        List<Integer> row = fewest(house, x);
        if (row == null) {
            return NONE;
        }
        return k == -1 ? row.size() : k < row.size() ? row.get(k) : NONE;
    }

    int brook(int house) {
        if (!isHouse(house)) {
            return BAD;
        }
        Land l = land.twin();
        for (int lies = 0; lies < 30; lies++) {
            if (l.drowned(l.houses.get(house))) {
                return lies;
            }
            l.slide(l.houses.get(house));
        }
        return NONE;
    }

    int image(int k) {
        if (!in(k, 0, 1)) {
            return BAD;
        }
        if (land == null) {
            return STATE;
        }
        images[k] = land.twin();
        return 1;
    }

    int restore(int k) {
        if (!in(k, 0, 1)) {
            return BAD;
        }
        if (images[k] == null) {
            return STATE;
        }
        land = images[k].twin();
        past.clear();
        return 1;
    }

    int kind(int house) {
        return isHouse(house) ? land.houses.get(house).kind() : BAD;
    }

    int as(int house, int kind) {
        if (!isHouse(house) || !in(kind, 0, 5)) {
            return BAD;
        }
        Class<?>[] kinds = {House.class, Judge.class, Inn.class, Mill.class, Shop.class, Hut.class};
        return kinds[kind].isInstance(land.houses.get(house)) ? fine(house) : found(3);
    }

    int ask(int house, int what) {
        if (!isHouse(house) || !in(what, 0, 1)) {
            return BAD;
        }
        trace = new ArrayList<>();
        House h = land.houses.get(house);
        return what == 0 ? h.size(trace) : h.mark(trace);
    }

    int trace(int i) {
        return in(i, 0, Math.min(16, trace.size()) - 1) ? trace.get(i) : NONE;
    }

    int count(int what) {
        int houses = land == null ? 0 : land.houses.size();
        int lies = 0;
        int rents = 0;
        for (int h = 0; h < houses; h++) {
            lies += house(h, 8);
            rents += house(h, 7);
        }
        int[] all = {rows.size(), houses, land == null ? 0 : land.walls.size(), past.size(), lies, rents, tape.length()};
        return in(what, 0, 6) ? all[what] : BAD;
    }

    int status() {
        return status;
    }
}
