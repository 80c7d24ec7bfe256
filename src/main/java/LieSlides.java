/** Houses on wet clay, each of which slides a yard east when a lie is told in it. */
public final class LieSlides {
    public static final int NONE = -1000000, BAD = -1000001, STATE = -1000002, FULL = -1000003;

    private static final int FINDING_BASE = -1000010;
    private static final int FAULT_BASE = -1000100;

    private static final int NULL_ROW = 1;
    private static final int WRONG_PLACE = 2;
    private static final int WRONG_KIND = 3;
    private static final int WRONG_SIZE = 4;
    private static final int WRONG_STORE = 5;

    private static final int MOST_HOUSES = 6;
    private static final int MOST_CLAIM = 15;
    private static final int MOST_TALK = 20;
    private static final int MOST_SAID = 8;
    private static final int IMAGES = 2;
    private static final int WIDTH = 16;
    private static final int HEIGHT = 8;

    private final Rows rows = new Rows();
    private final Reader reader = new Reader();
    private final Field ground = new Field();
    private final Field[] images = {new Field(), new Field()};
    private final History history = new History();
    private final Foresight foresight = new Foresight();
    private final Bodies bodies = new Bodies();
    private int finding = 0;

    public LieSlides() {
    }

    // ---- rows

    public int row(int row, int lane, int n) {
        if (!rows.isNumber(row) || !rows.isLane(lane) || n > Rows.MOST_ITEMS) {
            return BAD;
        }
        if (n < 0) {
            return found(WRONG_SIZE);
        }
        rows.make(row, lane, n);
        return answered(n);
    }

    public int set(int row, int i, int v) {
        if (!rows.isNumber(row)) {
            return BAD;
        }
        if (rows.isMissing(row)) {
            return found(NULL_ROW);
        }
        if (!rows.hasPlaces(row, i, 1)) {
            return found(WRONG_PLACE);
        }
        return answered(rows.put(row, i, v));
    }

    public int copy(int a, int i, int b, int j, int n) {
        if (!rows.isNumber(a) || !rows.isNumber(b)) {
            return BAD;
        }
        if (rows.isMissing(a) || rows.isMissing(b)) {
            return found(NULL_ROW);
        }
        if (rows.laneOf(a) != rows.laneOf(b)) {
            return found(WRONG_STORE);
        }
        if (!rows.hasPlaces(a, i, n) || !rows.hasPlaces(b, j, n)) {
            return found(WRONG_PLACE);
        }
        rows.move(a, i, b, j, n);
        return answered(n);
    }

    public int drop(int row) {
        if (!rows.isNumber(row)) {
            return BAD;
        }
        if (rows.isMissing(row)) {
            return found(NULL_ROW);
        }
        return answered(rows.remove(row));
    }

    // ---- fields, sayings

    public int feed(long w, int n) {
        if (n < 1 || n > 8) {
            return BAD;
        }
        return reader.append(w, n) ? reader.length() : FULL;
    }

    public int field() {
        if (!reader.readTape()) {
            return FAULT_BASE - reader.faultPlace();
        }
        ground.become(reader.draft());
        history.forgetAll();
        return ground.houses;
    }

    public int fault() {
        return reader.faultNumber();
    }

    public int say(int house, int claim) {
        if (!ground.isHouse(house) || claim < 0 || claim > MOST_CLAIM) {
            return BAD;
        }
        return ground.isDrowned(ground.xs, house) ? STATE : sayIn(house, claim);
    }

    public int talk(int row, int i, int n) {
        if (!ground.isThere()) {
            return STATE;
        }
        if (!rows.isNumber(row) || n < 1 || n > MOST_TALK) {
            return BAD;
        }
        if (rows.isMissing(row)) {
            return found(NULL_ROW);
        }
        if (!rows.hasPlaces(row, i, n)) {
            return found(WRONG_PLACE);
        }
        return areSayings(row, i, n) ? answered(sayAll(row, i, n)) : BAD;
    }

    public int undo() {
        if (history.size() == 0) {
            return STATE;
        }
        history.undoLatest(ground);
        return history.size();
    }

    public int house(int house, int what) {
        if (!ground.isHouse(house)) {
            return BAD;
        }
        switch (what) {
            case 0: return ground.xOf(ground.xs, house);
            case 1: return ground.ys[house];
            case 2: return ground.wides[house];
            case 3: return ground.highs[house];
            case 4: return ground.isDrowned(ground.xs, house) ? 1 : 0;
            case 5: return ground.isOpen(house) ? 1 : 0;
            case 6: return ground.isBoxed(house) ? 1 : 0;
            case 7: return ground.rentOf(house);
            case 8: return ground.liesTold[house];
            default: return BAD;
        }
    }

    public int cell(int cell) {
        if (!ground.isThere()) {
            return STATE;
        }
        if (cell < 0 || cell >= WIDTH * HEIGHT) {
            return BAD;
        }
        return ground.contentOf(cell % WIDTH, cell / WIDTH);
    }

    // ---- foretold

    public int lies(int said, int n, int stands, int i) {
        int refusal = refusalToForetell(said, n, stands, i >= -1);
        if (refusal != 0) {
            return refusal;
        }
        foretellLies(said, n, stands);
        return i == -1 ? foresight.fitting() : foresight.fittingSet(i);
    }

    public int guess(int said, int n, int stands, int what) {
        int refusal = refusalToForetell(said, n, stands, what >= 0 && what <= 2);
        if (refusal != 0) {
            return refusal;
        }
        foretellLies(said, n, stands);
        if (what == 0) {
            return foresight.fewestLies();
        }
        return what == 1 ? foresight.sureLies() : foresight.bestQuestion(n);
    }

    public int wanted(int house, int x, int k) {
        if (!ground.isHouse(house) || x < 0 || x >= WIDTH || k < -1) {
            return BAD;
        }
        int fewest = foresight.findLiars(ground, house, x);
        return k == -1 ? fewest : foresight.liar(k, fewest);
    }

    public int brook(int house) {
        return ground.isHouse(house) ? foresight.liesTillBrook(ground, house) : BAD;
    }

    public int image(int k) {
        if (k < 0 || k >= IMAGES) {
            return BAD;
        }
        if (!ground.isThere()) {
            return STATE;
        }
        images[k].become(ground);
        return 1;
    }

    public int restore(int k) {
        if (k < 0 || k >= IMAGES) {
            return BAD;
        }
        if (!images[k].isThere()) {
            return STATE;
        }
        ground.become(images[k]);
        history.forgetAll();
        return 1;
    }

    // ---- asked

    public int kind(int house) {
        return ground.isHouse(house) ? ground.kinds[house] : BAD;
    }

    public int as(int house, int kind) {
        if (!ground.isHouse(house) || !Kinds.isNumber(kind)) {
            return BAD;
        }
        return Kinds.isOne(ground.kinds[house], kind) ? answered(house) : found(WRONG_KIND);
    }

    public int ask(int house, int what) {
        if (!ground.isHouse(house) || what < 0 || what > 1) {
            return BAD;
        }
        return bodies.begin(ground, house, what);
    }

    public int trace(int i) {
        return bodies.traced(i);
    }

    public int count(int what) {
        switch (what) {
            case 0: return rows.present();
            case 1: return ground.houses;
            case 2: return ground.wallCells();
            case 3: return history.size();
            case 4: return ground.allLies();
            case 5: return ground.allRents();
            case 6: return reader.length();
            default: return BAD;
        }
    }

    public int status() {
        return finding;
    }

    // ---- within

    private int found(int number) {
        finding = number;
        return FINDING_BASE - number;
    }

    private int answered(int answer) {
        finding = 0;
        return answer;
    }

    /** The caller has seen that the house stands and is not drowned. */
    private int sayIn(int house, int claim) {
        boolean lie = ground.isLie(claim);
        int slid = lie ? ground.slidBy(ground.xs, house) : 0;
        history.keep(ground.xs, lie ? house : History.NO_LIAR);
        if (lie) {
            ground.liesTold[house]++;
            ground.xs = ground.afterSlide(ground.xs, slid);
        }
        return slid;
    }

    private boolean areSayings(int row, int i, int n) {
        for (int k = i; k < i + n; k++) {
            int item = rows.item(row, k);
            if (item < 0 || !ground.isHouse(item / (MOST_CLAIM + 1))) {
                return false;
            }
        }
        return true;
    }

    private int sayAll(int row, int i, int n) {
        int slides = 0;
        for (int k = i; k < i + n; k++) {
            int item = rows.item(row, k);
            int house = item / (MOST_CLAIM + 1);
            if (!ground.isDrowned(ground.xs, house) && sayIn(house, item % (MOST_CLAIM + 1)) != 0) {
                slides++;
            }
        }
        return slides;
    }

    /** What lies() and guess() refuse alike; 0 if nothing. */
    private int refusalToForetell(int said, int n, int stands, boolean numberFits) {
        if (!ground.isThere()) {
            return STATE;
        }
        if (!rows.isNumber(said) || !rows.isNumber(stands) || n < 1 || n > MOST_SAID || !numberFits) {
            return BAD;
        }
        if (rows.isMissing(said) || rows.isMissing(stands)) {
            return found(NULL_ROW);
        }
        if (!rows.hasPlaces(said, 0, n) || !rows.hasPlaces(stands, 0, ground.houses)) {
            return found(WRONG_PLACE);
        }
        for (int k = 0; k < n; k++) {
            if (!ground.isHouse(rows.item(said, k))) {
                return BAD;
            }
        }
        return answered(0);
    }

    private void foretellLies(int said, int n, int stands) {
        foresight.beginAt(ground.xs);
        for (int k = 0; k < n; k++) {
            foresight.addSaying(ground, rows.item(said, k), k);
        }
        foresight.keepFitting(n, standsAsOne(stands));
    }

    /** The stands of a row as one number, as Field has them; -1 if one of them is no X at all. */
    private int standsAsOne(int stands) {
        int xs = 0;
        for (int h = 0; h < ground.houses; h++) {
            int x = rows.item(stands, h);
            if (x < 0 || x >= WIDTH) {
                return -1;
            }
            xs |= x << 4 * h;
        }
        return xs;
    }

    /** The rows of numbers, all in arrays made once, since a run has little room for new ones. */
    private static final class Rows {
        static final int MOST_ITEMS = 40;
        private static final int ROWS = 8;
        private static final int LANES = 3;
        private static final int MISSING = -1;

        private final int[] lanes = {MISSING, MISSING, MISSING, MISSING, MISSING, MISSING, MISSING, MISSING};
        private final int[] sizes = new int[ROWS];
        private final int[] items = new int[ROWS * MOST_ITEMS];

        boolean isNumber(int row) {
            return row >= 0 && row < ROWS;
        }

        boolean isLane(int lane) {
            return lane >= 0 && lane < LANES;
        }

        boolean isMissing(int row) {
            return lanes[row] == MISSING;
        }

        int laneOf(int row) {
            return lanes[row];
        }

        int item(int row, int i) {
            return items[row * MOST_ITEMS + i];
        }

        /** In long, since i and n may be so great that their sum wraps around. */
        boolean hasPlaces(int row, int i, int n) {
            return i >= 0 && n >= 0 && (long) i + n <= sizes[row];
        }

        void make(int row, int lane, int n) {
            int first = row * MOST_ITEMS;
            lanes[row] = lane;
            sizes[row] = n;
            for (int k = first; k < first + n; k++) {
                items[k] = 0;
            }
        }

        int put(int row, int i, int v) {
            int cut = v;
            if (lanes[row] == 0) {
                cut = (byte) v;
            } else if (lanes[row] == 1) {
                cut = (short) v;
            }
            items[row * MOST_ITEMS + i] = cut;
            return cut;
        }

        /** arraycopy takes the items as they were ahead, also within one row. */
        void move(int a, int i, int b, int j, int n) {
            System.arraycopy(items, a * MOST_ITEMS + i, items, b * MOST_ITEMS + j, n);
        }

        int remove(int row) {
            lanes[row] = MISSING;
            return sizes[row];
        }

        int present() {
            int present = 0;
            for (int row = 0; row < ROWS; row++) {
                if (lanes[row] != MISSING) {
                    present++;
                }
            }
            return present;
        }
    }

    /**
     * A FIELD as it stands. The X of all houses are one number, four bits a house: what is only
     * foretold is then a number too, and nothing has to be put back.
     */
    private static final class Field {
        int truths = 0;
        int brookX = 0;
        int houses = 0;
        int xs = 0;
        final int[] walls = new int[HEIGHT];
        final int[] paths = new int[HEIGHT];
        final int[] kinds = new int[MOST_HOUSES];
        final int[] ys = new int[MOST_HOUSES];
        final int[] wides = new int[MOST_HOUSES];
        final int[] highs = new int[MOST_HOUSES];
        final int[] liesTold = new int[MOST_HOUSES];

        /** A FIELD that was read has a house, so one without any was never read. */
        boolean isThere() {
            return houses > 0;
        }

        boolean isHouse(int house) {
            return house >= 0 && house < houses;
        }

        void clear() {
            truths = 0;
            brookX = 0;
            houses = 0;
            xs = 0;
            for (int y = 0; y < HEIGHT; y++) {
                walls[y] = 0;
                paths[y] = 0;
            }
        }

        void become(Field other) {
            truths = other.truths;
            brookX = other.brookX;
            houses = other.houses;
            xs = other.xs;
            System.arraycopy(other.walls, 0, walls, 0, HEIGHT);
            System.arraycopy(other.paths, 0, paths, 0, HEIGHT);
            System.arraycopy(other.kinds, 0, kinds, 0, MOST_HOUSES);
            System.arraycopy(other.ys, 0, ys, 0, MOST_HOUSES);
            System.arraycopy(other.wides, 0, wides, 0, MOST_HOUSES);
            System.arraycopy(other.highs, 0, highs, 0, MOST_HOUSES);
            System.arraycopy(other.liesTold, 0, liesTold, 0, MOST_HOUSES);
        }

        /** The caller has seen that it fits, by hasRoomFor, and that there is room for one more. */
        void addHouse(int kind, int x, int y, int wide, int high) {
            kinds[houses] = kind;
            ys[houses] = y;
            wides[houses] = wide;
            highs[houses] = high;
            liesTold[houses] = 0;
            xs |= x << 4 * houses;
            houses++;
        }

        boolean hasRoomFor(int x, int y, int wide, int high) {
            if (x + wide > WIDTH || y + high > HEIGHT) {
                return false;
            }
            for (int cy = y; cy < y + high; cy++) {
                for (int cx = x; cx < x + wide; cx++) {
                    if (isWall(cx, cy) || houseAt(cx, cy) >= 0) {
                        return false;
                    }
                }
            }
            return true;
        }

        boolean isLie(int claim) {
            return (truths >> claim / 2 & 1) != claim % 2;
        }

        int xOf(int stands, int house) {
            return stands >> 4 * house & 15;
        }

        /** The first X east of a house. */
        int eastOf(int stands, int house) {
            return xOf(stands, house) + wides[house];
        }

        boolean isDrowned(int stands, int house) {
            return eastOf(stands, house) > brookX;
        }

        private boolean isWall(int x, int y) {
            return (walls[y] >> x & 1) != 0;
        }

        private boolean isPath(int x, int y) {
            return (paths[y] >> x & 1) != 0;
        }

        private boolean hasColumn(int stands, int house, int x) {
            int first = xOf(stands, house);
            return x >= first && x < first + wides[house];
        }

        /** The house that has a cell; -1 if none. */
        private int houseAt(int x, int y) {
            for (int h = 0; h < houses; h++) {
                int first = xOf(xs, h);
                if (x >= first && x < first + wides[h] && y >= ys[h] && y < ys[h] + highs[h]) {
                    return h;
                }
            }
            return -1;
        }

        int contentOf(int x, int y) {
            int house = houseAt(x, y);
            if (house >= 0) {
                return house;
            }
            if (isWall(x, y)) {
                return -1;
            }
            if (isPath(x, y)) {
                return -2;
            }
            return x >= brookX ? -3 : -4;
        }

        boolean isOpen(int house) {
            int x = xOf(xs, house);
            int y = ys[house] + highs[house];
            return y < HEIGHT && isPath(x, y) && !isWall(x, y) && houseAt(x, y) < 0;
        }

        /** Where the field ends there is no house either, so houseAt answers for the ends too. */
        boolean isBoxed(int house) {
            int west = xOf(xs, house) - 1;
            int east = eastOf(xs, house);
            for (int y = ys[house]; y < ys[house] + highs[house]; y++) {
                if (houseAt(west, y) < 0 || houseAt(east, y) < 0) {
                    return false;
                }
            }
            return true;
        }

        int rentOf(int house) {
            return isDrowned(xs, house) ? 0 : xOf(xs, house) * wides[house] * highs[house];
        }

        int allRents() {
            int rents = 0;
            for (int h = 0; h < houses; h++) {
                rents += rentOf(h);
            }
            return rents;
        }

        int allLies() {
            int lies = 0;
            for (int h = 0; h < houses; h++) {
                lies += liesTold[h];
            }
            return lies;
        }

        int wallCells() {
            int cells = 0;
            for (int y = 0; y < HEIGHT; y++) {
                cells += Integer.bitCount(walls[y]);
            }
            return cells;
        }

        /** The houses (bits) that slide by a lie told in one, from such stands; 0 if they are stopped. */
        int slidBy(int stands, int liar) {
            int sliding = 1 << liar;
            int looked = 0;
            for (int round = 0; round < MOST_HOUSES && looked != sliding; round++) {
                for (int h = 0; h < houses; h++) {
                    if ((sliding & ~looked & 1 << h) != 0) {
                        if (isStopped(stands, h)) {
                            return 0;
                        }
                        looked |= 1 << h;
                        sliding |= pushedBy(stands, h);
                    }
                }
            }
            return sliding;
        }

        private boolean isStopped(int stands, int house) {
            int east = eastOf(stands, house);
            if (east >= WIDTH) {
                return true;
            }
            for (int y = ys[house]; y < ys[house] + highs[house]; y++) {
                if (isWall(east, y)) {
                    return true;
                }
            }
            return false;
        }

        /** Houses have no cell in common ahead of a slide, so only the column east of this one is new. */
        private int pushedBy(int stands, int house) {
            int east = eastOf(stands, house);
            int pushed = 0;
            for (int h = 0; h < houses; h++) {
                if (hasColumn(stands, h, east) && shareRow(house, h)) {
                    pushed |= 1 << h;
                }
            }
            return pushed;
        }

        private boolean shareRow(int a, int b) {
            return ys[a] < ys[b] + highs[b] && ys[b] < ys[a] + highs[a];
        }

        int afterSlide(int stands, int sliding) {
            int after = stands;
            for (int h = 0; h < houses; h++) {
                after += (sliding >> h & 1) << 4 * h;
            }
            return after;
        }
    }

    /** The tape, and how a FIELD is read from it into a draft, so that a FAULT leaves all as it was. */
    private static final class Reader {
        private static final int MOST_BYTES = 400;
        private static final int MOST_WALLS = 12;
        private static final int MOST_PATHS = 8;
        private static final int MOST_FIGURES = 3;

        private static final int END = 0;
        private static final int NAME = 1;
        private static final int NUMBER = 2;
        private static final int SIGN = 3;
        private static final int NO_TOKEN = 4;

        private final byte[] tape = new byte[MOST_BYTES];
        private int bytes = 0;
        private final Field draft = new Field();
        private int fault = 0;
        private int place = 0;

        private int start = 0;
        private int end = 0;
        private int sort = END;
        private int value = 0;

        int length() {
            return bytes;
        }

        int faultNumber() {
            return fault;
        }

        int faultPlace() {
            return place;
        }

        Field draft() {
            return draft;
        }

        boolean append(long w, int n) {
            if (bytes + n > MOST_BYTES) {
                return false;
            }
            for (int k = n - 1; k >= 0; k--) {
                tape[bytes] = (byte) (w >> 8 * k);
                bytes++;
            }
            return true;
        }

        boolean readTape() {
            draft.clear();
            end = 0;
            takeToken();
            boolean whole = readFacts() && readWalls() && readPaths() && readHouses();
            bytes = 0;
            return whole;
        }

        private boolean readFacts() {
            if (!isWord("facts")) {
                return failWith(1);
            }
            if (!takeNumber(0, 255)) {
                return false;
            }
            draft.truths = value;
            if (!takeNumber(8, 15)) {
                return false;
            }
            draft.brookX = value;
            return takeSemicolon();
        }

        private boolean readWalls() {
            for (int told = 0; told <= MOST_WALLS && isWord("wall"); told++) {
                if (told == MOST_WALLS) {
                    return failWith(3);
                }
                if (!takeNumber(0, WIDTH - 1)) {
                    return false;
                }
                int x = value;
                if (!takeNumber(0, HEIGHT - 1)) {
                    return false;
                }
                draft.walls[value] |= 1 << x;
                if (!takeSemicolon()) {
                    return false;
                }
            }
            return true;
        }

        private boolean readPaths() {
            for (int told = 0; told <= MOST_PATHS && isWord("path"); told++) {
                if (told == MOST_PATHS) {
                    return failWith(3);
                }
                if (!takeNumber(0, HEIGHT - 1)) {
                    return false;
                }
                int y = value;
                if (!takeNumber(0, WIDTH - 1)) {
                    return false;
                }
                int from = value;
                if (!takeNumber(from, WIDTH - 1)) {
                    return false;
                }
                draft.paths[y] |= (2 << value) - (1 << from);
                if (!takeSemicolon()) {
                    return false;
                }
            }
            return true;
        }

        private boolean readHouses() {
            if (!isWord("house")) {
                return failWith(1);
            }
            for (int told = 0; told <= MOST_HOUSES && isWord("house"); told++) {
                if (told == MOST_HOUSES) {
                    return failWith(3);
                }
                if (!readHouse()) {
                    return false;
                }
            }
            return sort == END || failWith(1);
        }

        private boolean readHouse() {
            takeToken();
            int kind = kindOfWord();
            if (kind == 0) {
                return failWith(1);
            }
            if (!takeNumber(0, WIDTH - 1)) {
                return false;
            }
            int x = value;
            if (!takeNumber(0, HEIGHT - 1)) {
                return false;
            }
            int y = value;
            if (!takeNumber(1, 4)) {
                return false;
            }
            int wide = value;
            if (!takeNumber(1, 3)) {
                return false;
            }
            if (!draft.hasRoomFor(x, y, wide, value)) {
                return failWith(2);
            }
            draft.addHouse(kind, x, y, wide, value);
            return takeSemicolon();
        }

        /** The KIND that a house's word tells; 0 if none. */
        private int kindOfWord() {
            if (isWord("judge")) {
                return Kinds.JUDGE;
            }
            if (isWord("inn")) {
                return Kinds.INN;
            }
            if (isWord("mill")) {
                return Kinds.MILL;
            }
            if (isWord("shop")) {
                return Kinds.SHOP;
            }
            return isWord("hut") ? Kinds.HUT : 0;
        }

        private boolean failWith(int number) {
            fault = number;
            place = start;
            return false;
        }

        private boolean takeNumber(int least, int most) {
            takeToken();
            if (sort != NUMBER) {
                return failWith(1);
            }
            return value >= least && value <= most || failWith(2);
        }

        /** Takes the token behind the semicolon too, since what may follow depends on it. */
        private boolean takeSemicolon() {
            takeToken();
            if (sort != SIGN) {
                return failWith(1);
            }
            takeToken();
            return true;
        }

        private boolean isWord(String word) {
            if (sort != NAME || end - start != word.length()) {
                return false;
            }
            for (int k = 0; k < word.length(); k++) {
                if (tape[start + k] != word.charAt(k)) {
                    return false;
                }
            }
            return true;
        }

        private void takeToken() {
            start = end;
            while (start < bytes && (tape[start] == ' ' || tape[start] == '\n')) {
                start++;
            }
            if (start >= bytes) {
                sort = END;
                end = start;
                return;
            }
            end = endOfRun('a', 'z');
            if (end > start) {
                sort = NAME;
                return;
            }
            end = endOfRun('0', '9');
            if (end > start) {
                sort = end - start <= MOST_FIGURES ? NUMBER : NO_TOKEN;
                value = valueOfFigures();
                return;
            }
            sort = tape[start] == ';' ? SIGN : NO_TOKEN;
            end = start + 1;
        }

        private int endOfRun(char least, char most) {
            int at = start;
            while (at < bytes && tape[at] >= least && tape[at] <= most) {
                at++;
            }
            return at;
        }

        /** Only as many figures as a NUMBER has: more of them would wrap around. */
        private int valueOfFigures() {
            int sum = 0;
            for (int at = start; at < end && at < start + MOST_FIGURES; at++) {
                sum = 10 * sum + tape[at] - '0';
            }
            return sum;
        }
    }

    /** The sayings that can be undone, in a ring: of more than it holds the oldest is written over. */
    private static final class History {
        static final int NO_LIAR = -1;
        private static final int MOST_KEPT = 24;

        private final int[] standsAhead = new int[MOST_KEPT];
        private final int[] liars = new int[MOST_KEPT];
        private int next = 0;
        private int kept = 0;

        int size() {
            return kept;
        }

        void forgetAll() {
            kept = 0;
        }

        void keep(int stands, int liar) {
            standsAhead[next] = stands;
            liars[next] = liar;
            next = (next + 1) % MOST_KEPT;
            kept = Math.min(kept + 1, MOST_KEPT);
        }

        /** The caller has seen that one is kept. */
        void undoLatest(Field field) {
            next = (next + MOST_KEPT - 1) % MOST_KEPT;
            kept--;
            field.xs = standsAhead[next];
            if (liars[next] != NO_LIAR) {
                field.liesTold[liars[next]]--;
            }
        }
    }

    /** What would come of lies, without changing the FIELD. */
    private static final class Foresight {
        private static final int MOST_LIES = 4;
        private static final int SETS = 1 << MOST_SAID;

        /** The stands by each set of lies; the place is the set. */
        private final int[] standsBy = new int[SETS];
        private final int[] fittingSets = new int[SETS];
        private int fits = 0;
        private final int[] liars = new int[MOST_LIES];

        void beginAt(int stands) {
            standsBy[0] = stands;
        }

        /** Saying k comes behind all of the earlier ones, so its sets build on theirs. */
        void addSaying(Field field, int house, int k) {
            int half = 1 << k;
            for (int set = 0; set < half; set++) {
                int stands = standsBy[set];
                standsBy[set + half] = field.afterSlide(stands, field.slidBy(stands, house));
            }
        }

        void keepFitting(int n, int stands) {
            fits = 0;
            for (int set = 0; set < 1 << n; set++) {
                if (standsBy[set] == stands) {
                    fittingSets[fits] = set;
                    fits++;
                }
            }
        }

        int fitting() {
            return fits;
        }

        int fittingSet(int i) {
            return i >= 0 && i < fits ? fittingSets[i] : NONE;
        }

        int fewestLies() {
            int best = NONE;
            for (int k = 0; k < fits; k++) {
                if (best == NONE || Integer.bitCount(fittingSets[k]) < Integer.bitCount(best)) {
                    best = fittingSets[k];
                }
            }
            return best;
        }

        int sureLies() {
            int sure = SETS - 1;
            for (int k = 0; k < fits; k++) {
                sure &= fittingSets[k];
            }
            return fits == 0 ? NONE : sure;
        }

        /** A greater part that is all of them parts nothing, so it must come out below that. */
        int bestQuestion(int n) {
            int best = NONE;
            int least = fits;
            for (int saying = 0; saying < n; saying++) {
                int lies = 0;
                for (int k = 0; k < fits; k++) {
                    lies += fittingSets[k] >> saying & 1;
                }
                int greater = Math.max(lies, fits - lies);
                if (greater < least) {
                    least = greater;
                    best = saying;
                }
            }
            return best;
        }

        /** How many lies bring a house to x; whose they are is kept for liar(). */
        int findLiars(Field field, int house, int x) {
            for (int lies = 0; lies <= MOST_LIES; lies++) {
                if (canReach(field, field.xs, house, x, lies, 0)) {
                    return lies;
                }
            }
            return NONE;
        }

        /** A lie that slides nothing is never among the fewest; and no lie brings a house two yards. */
        private boolean canReach(Field field, int stands, int house, int x, int lies, int told) {
            int missing = x - field.xOf(stands, house);
            if (missing <= 0) {
                return true;
            }
            if (missing > lies || told >= MOST_LIES) {
                return false;
            }
            for (int h = 0; h < field.houses; h++) {
                int slid = field.isDrowned(stands, h) ? 0 : field.slidBy(stands, h);
                if (slid != 0) {
                    liars[told] = h;
                    if (canReach(field, field.afterSlide(stands, slid), house, x, lies - 1, told + 1)) {
                        return true;
                    }
                }
            }
            return false;
        }

        int liar(int k, int fewest) {
            return k >= 0 && k < fewest ? liars[k] : NONE;
        }

        /** Only its own lies move anything, so what is stopped once is stopped for good. */
        int liesTillBrook(Field field, int house) {
            int stands = field.xs;
            for (int lies = 0; lies <= WIDTH; lies++) {
                if (field.isDrowned(stands, house)) {
                    return lies;
                }
                int slid = field.slidBy(stands, house);
                if (slid == 0) {
                    return NONE;
                }
                stands = field.afterSlide(stands, slid);
            }
            return NONE;
        }
    }

    /** The kinds of houses, each with the kind that it is, too. */
    private static final class Kinds {
        static final int HOUSE = 0;
        static final int JUDGE = 1;
        static final int INN = 2;
        static final int MILL = 3;
        static final int SHOP = 4;
        static final int HUT = 5;
        static final int KINDS = 6;

        private static final int[] PARENTS = {HOUSE, HOUSE, HOUSE, INN, INN, SHOP};

        static boolean isNumber(int kind) {
            return kind >= 0 && kind < KINDS;
        }

        /** The kind HOUSE has no parent, and stands for its own. */
        static int parentOf(int kind) {
            return PARENTS[kind];
        }

        static boolean isOne(int kind, int asked) {
            int is = kind;
            for (int step = 0; step < KINDS && is != asked; step++) {
                is = parentOf(is);
            }
            return is == asked;
        }
    }

    /** The bodies by which a house answers, and the trace that they leave. */
    private static final class Bodies {
        private static final int SIZE = 0;
        private static final int MARK = 1;
        private static final int MOST_TRACED = 16;
        private static final int DEEPEST = 40;

        /** By kind: the body told for it, 0 if none is. */
        private static final int[] SIZE_BODIES = {10, 13, 11, 12, 0, 14};
        private static final int[] MARK_BODIES = {20, 23, 21, 0, 22, 24};

        private final int[] trail = new int[MOST_TRACED];
        private int begun = 0;

        int begin(Field field, int house, int what) {
            begun = 0;
            return asked(field, house, what, 0);
        }

        int traced(int i) {
            return i >= 0 && i < begun ? trail[i] : NONE;
        }

        private int asked(Field field, int house, int what, int depth) {
            return given(field, house, bodyFor(field.kinds[house], what), depth + 1);
        }

        private int bodyFor(int kind, int what) {
            int is = kind;
            for (int step = 0; step < Kinds.KINDS; step++) {
                int body = what == SIZE ? SIZE_BODIES[is] : MARK_BODIES[is];
                if (body != 0) {
                    return body;
                }
                is = Kinds.parentOf(is);
            }
            return 0;
        }

        private int given(Field field, int house, int body, int depth) {
            if (depth > DEEPEST) {
                return 0;
            }
            leaveTrace(body);
            switch (body) {
                case 10: return field.wides[house] * field.highs[house];
                case 11: return given(field, house, 10, depth + 1) + asked(field, house, MARK, depth);
                case 12: return -given(field, house, 11, depth + 1);
                case 13: return given(field, house, 10, depth + 1) - 100;
                case 14: return 2 * given(field, house, 11, depth + 1);
                case 20: return house;
                case 21: return given(field, house, 20, depth + 1) + field.xOf(field.xs, house);
                case 22: return given(field, house, 21, depth + 1) - 1000;
                case 23: return given(field, house, 20, depth + 1) - asked(field, house, SIZE, depth);
                case 24: return 2 * given(field, house, 22, depth + 1);
                default: return 0;
            }
        }

        private void leaveTrace(int body) {
            if (begun < MOST_TRACED) {
                trail[begun] = body;
                begun++;
            }
        }
    }
}
