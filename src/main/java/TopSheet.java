/** Desks with piles of sheets, and a wind that takes what lies uppermost on each. */
public final class TopSheet {
    public static final int NONE = -1000000, BAD = -1000001, STATE = -1000002, FULL = -1000003;

    private static final int FOUND = -1000010, FAULTY = -1000100;
    private static final int NO_ROW = 1, NO_PLACE = 2, NO_KIND = 3, NO_SIZE = 4, NO_STORE = 5;

    private static final int ROWS = 8, LANES = 3, ITEMS = 40;
    private static final int BYTES = 500, WORD_BYTES = 8;
    private static final int DESKS = 4, ROOMS = 9, SHEETS = 16;
    private static final int QUARTERS = 12, GUSTS = 9, FORESEEN = 3, ORDERED = 7;
    private static final int ACTS = 24, IMAGES = 2;
    private static final int FIRST_PLACE = 10;

    private static final int BILL = 1, WARRANT = 2, WILL = 3, BLANK = 4, SLATE = 5;

    private final Row[] rows = new Row[ROWS];
    private final Reader reader = new Reader();
    private final Office now = new Office();
    private final Acts acts = new Acts();
    private final Office[] images = new Office[IMAGES];
    private final Means means = new Means();
    private final Sorter sorter = new Sorter();
    private final Asker asker = new Asker();
    private int latestFault = 0;
    private int latestFinding = 0;

    public TopSheet() {
        for (int i = 0; i < ROWS; i++) {
            rows[i] = new Row();
        }
        for (int i = 0; i < IMAGES; i++) {
            images[i] = new Office();
        }
    }

    // ---- rows

    public int row(int row, int lane, int n) {
        if (!isRow(row) || lane < 0 || lane >= LANES || n > ITEMS) {
            return BAD;
        }
        if (n < 0) {
            return found(NO_SIZE);
        }
        rows[row].begin(lane, n);
        return well(n);
    }

    public int set(int row, int i, int v) {
        if (!isRow(row)) {
            return BAD;
        }
        Row r = rows[row];
        if (r.isMissing()) {
            return found(NO_ROW);
        }
        if (!r.hasPlaces(i, 1)) {
            return found(NO_PLACE);
        }
        return well(r.put(i, v));
    }

    public int copy(int a, int i, int b, int j, int n) {
        if (!isRow(a) || !isRow(b)) {
            return BAD;
        }
        Row from = rows[a];
        Row to = rows[b];
        if (from.isMissing() || to.isMissing()) {
            return found(NO_ROW);
        }
        if (from.lane != to.lane) {
            return found(NO_STORE);
        }
        if (!from.hasPlaces(i, n) || !to.hasPlaces(j, n)) {
            return found(NO_PLACE);
        }
        System.arraycopy(from.items, i, to.items, j, n);
        return well(n);
    }

    public int drop(int row) {
        if (!isRow(row)) {
            return BAD;
        }
        Row r = rows[row];
        if (r.isMissing()) {
            return found(NO_ROW);
        }
        int had = r.length;
        r.end();
        return well(had);
    }

    // ---- offices, acts

    public int feed(long w, int n) {
        if (n < 1 || n > WORD_BYTES) {
            return BAD;
        }
        if (!reader.tape.hasRoom(n)) {
            return FULL;
        }
        reader.tape.join(w, n);
        return reader.tape.length;
    }

    public int office() {
        boolean isRead = reader.read();
        reader.tape.length = 0;
        if (!isRead) {
            latestFault = reader.faultNumber;
            return FAULTY - reader.first;
        }
        now.takeOver(reader.draft);
        acts.forget();
        return now.desks;
    }

    public int fault() {
        return latestFault;
    }

    public int lift(int sheet) {
        if (!now.hasSheet(sheet)) {
            return BAD;
        }
        int desk = now.deskOf(sheet);
        if (desk < 0) {
            return STATE;
        }
        acts.keep(now);
        int above = now.above(sheet);
        now.takeOff(sheet);
        now.putOn(sheet, desk);
        if (now.quarter <= now.need[sheet]) {
            now.met |= 1 << sheet;
        }
        return above;
    }

    public int lay(int sheet, int desk) {
        if (!now.hasSheet(sheet) || !now.hasDesk(desk)) {
            return BAD;
        }
        int from = now.deskOf(sheet);
        if (from < 0 || from == desk) {
            return STATE;
        }
        if (!now.hasRoom(desk)) {
            return FULL;
        }
        acts.keep(now);
        now.takeOff(sheet);
        now.putOn(sheet, desk);
        return now.height[desk];
    }

    public int blank(int desk) {
        if (!now.hasDesk(desk)) {
            return BAD;
        }
        if (!now.hasRoom(desk) || now.sheets >= SHEETS) {
            return FULL;
        }
        acts.keep(now);
        return now.bring(BLANK, desk, 0, QUARTERS);
    }

    public int quarter(int seed) {
        if (!now.isThere()) {
            return STATE;
        }
        if (seed < 1 || seed > 999999) {
            return BAD;
        }
        if (now.quarter >= QUARTERS) {
            return STATE;
        }
        acts.keep(now);
        long draw = seed * 16807L % 2147483647L % 100L;
        int gone = draw < now.wind[now.quarter] ? now.blow() : 0;
        now.quarter++;
        return gone;
    }

    public int undo() {
        if (acts.kept == 0) {
            return STATE;
        }
        acts.takeBack(now);
        return acts.kept;
    }

    public int sheet(int sheet, int what) {
        if (!now.hasSheet(sheet)) {
            return BAD;
        }
        switch (what) {
            case 0:
                return now.worth[sheet];
            case 1:
                return now.need[sheet];
            case 2:
                return now.isGone(sheet) ? NONE : now.deskOf(sheet);
            case 3:
                return now.isGone(sheet) ? NONE : now.above(sheet);
            case 4:
                return now.isMet(sheet) ? 1 : 0;
            case 5:
                return now.isMissed(sheet) ? 1 : 0;
            default:
                return BAD;
        }
    }

    public int desk(int desk, int what) {
        if (!now.hasDesk(desk)) {
            return BAD;
        }
        if (what >= FIRST_PLACE) {
            int place = what - FIRST_PLACE;
            return place < now.height[desk] ? now.at(desk, place) : NONE;
        }
        switch (what) {
            case 0:
                return now.room[desk];
            case 1:
                return now.stones[desk];
            case 2:
                return now.height[desk];
            default:
                return BAD;
        }
    }

    // ---- foretold

    public int taken(int n, int what) {
        if (!now.isThere()) {
            return STATE;
        }
        if (!isGusts(n) || what < 0 || what > 1) {
            return BAD;
        }
        int set = now.takenBy(n);
        return what == 0 ? set : now.worthOf(set);
    }

    public int mean(int n, int what) {
        if (!now.isThere()) {
            return STATE;
        }
        if (n < 1 || n > FORESEEN || n > QUARTERS - now.quarter || what < 0 || what > 1) {
            return BAD;
        }
        means.foresee(now, n);
        return what == 0 ? means.numerator : means.denominator;
    }

    public int order(int desk, int n, int k) {
        if (!now.hasDesk(desk) || !isGusts(n) || k < -1) {
            return BAD;
        }
        int height = now.height[desk];
        if (height > ORDERED || k >= height) {
            return NONE;
        }
        sorter.arrange(now, desk, n);
        return k < 0 ? sorter.lost : sorter.line[k];
    }

    public int cover(int desk, int n) {
        if (!now.hasDesk(desk) || !isGusts(n)) {
            return BAD;
        }
        int most = now.room[desk] - now.height[desk];
        for (int blanks = 0; blanks <= most; blanks++) {
            // Each blank stands for one gust: what lies below meets only those that are left.
            if (now.lostFrom(desk, Math.max(0, n - blanks)) == 0) {
                return blanks;
            }
        }
        return NONE;
    }

    public int lend(int a, int b) {
        if (!now.hasDesk(a) || !now.hasDesk(b) || a == b) {
            return BAD;
        }
        if (now.height[a] == 0 || now.height[b] == 0) {
            return NONE;
        }
        int before = now.lostFrom(a, 1) + now.lostFrom(b, 1);
        int after = now.lostIfUppermost(now.leastOn(b), a) + now.lostIfUppermost(now.leastOn(a), b);
        return before - after;
    }

    public int beach(int row, int i, int m, int n) {
        if (!now.isThere()) {
            return STATE;
        }
        if (!isRow(row) || m < 0 || m > SHEETS || !isGusts(n)) {
            return BAD;
        }
        Row r = rows[row];
        if (r.isMissing()) {
            return found(NO_ROW);
        }
        if (!r.hasPlaces(i, m)) {
            return found(NO_PLACE);
        }
        for (int at = i; at < i + m; at++) {
            if (!now.hasSheet(r.items[at])) {
                return BAD;
            }
        }
        return well(fits(r, i, m, n) ? 1 : 0);
    }

    public int window() {
        if (!now.isThere()) {
            return STATE;
        }
        int lost = 0;
        for (int desk = 0; desk < now.desks; desk++) {
            lost += now.lostFrom(desk, 1) + now.lostThrough(desk);
        }
        return lost;
    }

    public int missed(int what) {
        if (!now.isThere()) {
            return STATE;
        }
        switch (what) {
            case 0:
                return now.missedSet();
            case 1:
                return now.worthOf(now.goneSet());
            default:
                return BAD;
        }
    }

    public int image(int k) {
        if (!isImage(k)) {
            return BAD;
        }
        if (!now.isThere()) {
            return STATE;
        }
        images[k].takeOver(now);
        return 1;
    }

    public int restore(int k) {
        if (!isImage(k)) {
            return BAD;
        }
        if (!images[k].isThere()) {
            return STATE;
        }
        now.takeOver(images[k]);
        acts.forget();
        return 1;
    }

    // ---- asked

    public int kind(int sheet) {
        return now.hasSheet(sheet) ? now.sort[sheet] : BAD;
    }

    public int as(int sheet, int kind) {
        if (!now.hasSheet(sheet) || !Asker.isKind(kind)) {
            return BAD;
        }
        if (!Asker.isOneOf(now.sort[sheet], kind)) {
            return found(NO_KIND);
        }
        return well(sheet);
    }

    public int ask(int sheet, int what) {
        if (!now.hasSheet(sheet) || what < 0 || what > 1) {
            return BAD;
        }
        return asker.begin(now, sheet, what);
    }

    public int trace(int i) {
        return i >= 0 && i < asker.left ? asker.bodies[i] : NONE;
    }

    public int count(int what) {
        switch (what) {
            case 0:
                return standingRows();
            case 1:
                return now.desks;
            case 2:
                return now.sheets;
            case 3:
                return now.quarter;
            case 4:
                return acts.kept;
            case 5:
                return Integer.bitCount(now.goneSet());
            case 6:
                return reader.tape.length;
            default:
                return BAD;
        }
    }

    public int status() {
        return latestFinding;
    }

    // ---- what these share

    private static boolean isRow(int row) {
        return row >= 0 && row < ROWS;
    }

    private static boolean isGusts(int n) {
        return n >= 0 && n <= GUSTS;
    }

    private static boolean isImage(int k) {
        return k >= 0 && k < IMAGES;
    }

    private int found(int number) {
        latestFinding = number;
        return FOUND - number;
    }

    private int well(int answer) {
        latestFinding = 0;
        return answer;
    }

    private int standingRows() {
        int standing = 0;
        for (int i = 0; i < ROWS; i++) {
            if (!rows[i].isMissing()) {
                standing++;
            }
        }
        return standing;
    }

    /** Whether m ITEMS from i on, which are SHEETS, are what n GUSTS take, gust behind gust. */
    private boolean fits(Row r, int i, int m, int n) {
        int at = i;
        for (int gust = 0; gust < n; gust++) {
            int awaited = now.takenByGust(gust);
            for (int left = Integer.bitCount(awaited); left > 0; left--) {
                int bit = at < i + m ? 1 << r.items[at] : 0;
                if ((awaited & bit) == 0) {
                    return false;
                }
                // A SHEET is taken once: the same one again does not fit.
                awaited &= ~bit;
                at++;
            }
        }
        return at == i + m;
    }

    /** A row of items of one lane, or none. */
    private static final class Row {
        private static final int MISSING = -1;

        private final int[] items = new int[ITEMS];
        private int lane = MISSING;
        private int length = 0;

        boolean isMissing() {
            return lane == MISSING;
        }

        void begin(int newLane, int newLength) {
            lane = newLane;
            length = newLength;
            for (int i = 0; i < ITEMS; i++) {
                items[i] = 0;
            }
        }

        void end() {
            lane = MISSING;
            length = 0;
        }

        /** Whether n places from i on are all there; told so that no sum can wrap around. */
        boolean hasPlaces(int i, int n) {
            return i >= 0 && n >= 0 && i <= length && n <= length - i;
        }

        int put(int i, int v) {
            int kept = lane == 0 ? (byte) v : lane == 1 ? (short) v : v;
            items[i] = kept;
            return kept;
        }
    }

    /** The bytes that wait to be read. */
    private static final class Tape {
        private final byte[] bytes = new byte[BYTES];
        private int length = 0;

        boolean hasRoom(int n) {
            return n <= BYTES - length;
        }

        void join(long w, int n) {
            for (int i = n - 1; i >= 0; i--) {
                bytes[length] = (byte) (w >> (8 * i));
                length++;
            }
        }

        /** The byte at a place, with its sign; beyond the end a blank, which is part of no token. */
        int at(int place) {
            return place >= 0 && place < length ? bytes[place] : ' ';
        }
    }

    /** Reads the tape, token by token, into a draft of an office. */
    private static final class Reader {
        private static final int END = 0, NAME = 1, NUMBER = 2, SEMICOLON = 3, OTHER = 4;
        private static final int NO_SORT = 0;
        private static final int MISPLACED = 1, NOT_AS_TOLD = 2, TOO_MANY = 3;
        private static final int FIGURES = 3, MOST_WIND = 100, MOST_STONES = 3;
        private static final int MOST_WORTH = 99, MOST_SHEETS = 12;

        private final Tape tape = new Tape();
        private final Office draft = new Office();
        private int type = END;
        private int first = 0;
        private int next = 0;
        private int value = 0;
        private int told = 0;
        private int faultNumber = 0;

        /** Whether the whole tape is an office; if not, faultNumber and first tell why and where. */
        boolean read() {
            draft.clear();
            next = 0;
            step();
            return readWind() && readDesks() && readSheets();
        }

        private boolean readWind() {
            if (!isWord("wind")) {
                return fail(MISPLACED);
            }
            step();
            for (int quarter = 0; quarter < QUARTERS; quarter++) {
                if (!takeNumber(0, MOST_WIND)) {
                    return false;
                }
                draft.wind[quarter] = told;
            }
            return takeSemicolon();
        }

        private boolean readDesks() {
            if (!isWord("desk")) {
                return fail(MISPLACED);
            }
            for (int desk = 0; desk <= DESKS && isWord("desk"); desk++) {
                if (desk == DESKS) {
                    return fail(TOO_MANY);
                }
                if (!readDesk()) {
                    return false;
                }
            }
            return true;
        }

        private boolean readDesk() {
            step();
            if (!takeNumber(1, ROOMS)) {
                return false;
            }
            int room = told;
            if (!takeNumber(0, MOST_STONES)) {
                return false;
            }
            draft.furnish(room, told);
            return takeSemicolon();
        }

        private boolean readSheets() {
            for (int sheet = 0; sheet <= MOST_SHEETS && isWord("sheet"); sheet++) {
                if (sheet == MOST_SHEETS) {
                    return fail(TOO_MANY);
                }
                if (!readSheet()) {
                    return false;
                }
            }
            return type == END || fail(MISPLACED);
        }

        private boolean readSheet() {
            step();
            int sort = sortTold();
            if (sort == NO_SORT) {
                return fail(MISPLACED);
            }
            step();
            if (type == NUMBER && draft.hasDesk(value) && !draft.hasRoom(value)) {
                return fail(NOT_AS_TOLD);
            }
            if (!takeNumber(0, draft.desks - 1)) {
                return false;
            }
            int desk = told;
            if (!takeNumber(0, MOST_WORTH)) {
                return false;
            }
            int worth = told;
            if (!takeNumber(0, QUARTERS)) {
                return false;
            }
            draft.bring(sort, desk, worth, told);
            return takeSemicolon();
        }

        private int sortTold() {
            return isWord("warrant") ? WARRANT
                : isWord("will") ? WILL
                : isWord("bill") ? BILL
                : isWord("blank") ? BLANK
                : isWord("slate") ? SLATE
                : NO_SORT;
        }

        private boolean takeNumber(int least, int most) {
            if (type != NUMBER) {
                return fail(MISPLACED);
            }
            if (value < least || value > most) {
                return fail(NOT_AS_TOLD);
            }
            told = value;
            step();
            return true;
        }

        private boolean takeSemicolon() {
            if (type != SEMICOLON) {
                return fail(MISPLACED);
            }
            step();
            return true;
        }

        /** The token at hand has the fault: it stays at hand, so that first tells its place. */
        private boolean fail(int number) {
            faultNumber = number;
            return false;
        }

        private boolean isWord(String word) {
            if (type != NAME || next - first != word.length()) {
                return false;
            }
            for (int i = 0; i < word.length(); i++) {
                if (tape.at(first + i) != word.charAt(i)) {
                    return false;
                }
            }
            return true;
        }

        private void step() {
            while (next < tape.length && isBlank(tape.at(next))) {
                next++;
            }
            first = next;
            value = 0;
            if (next >= tape.length) {
                type = END;
            } else if (isLetter(tape.at(next))) {
                type = NAME;
                while (next < tape.length && isLetter(tape.at(next))) {
                    next++;
                }
            } else if (isFigure(tape.at(next))) {
                while (next < tape.length && isFigure(tape.at(next))) {
                    value = value * 10 + (tape.at(next) - '0');
                    next++;
                }
                type = next - first <= FIGURES ? NUMBER : OTHER;
            } else {
                type = tape.at(next) == ';' ? SEMICOLON : OTHER;
                next++;
            }
        }

        private static boolean isBlank(int sign) {
            return sign == ' ' || sign == '\n';
        }

        private static boolean isLetter(int sign) {
            return sign >= 'a' && sign <= 'z';
        }

        private static boolean isFigure(int sign) {
            return sign >= '0' && sign <= '9';
        }
    }

    /** Desks, their piles, the sheets and the quarter; with no desk there is no office. */
    private static final class Office {
        private final int[] wind = new int[QUARTERS];
        private final int[] room = new int[DESKS];
        private final int[] stones = new int[DESKS];
        private final int[] height = new int[DESKS];
        private final int[] piles = new int[DESKS * ROOMS];
        private final int[] sort = new int[SHEETS];
        private final int[] worth = new int[SHEETS];
        private final int[] need = new int[SHEETS];
        private int desks = 0;
        private int sheets = 0;
        private int quarter = 0;
        private int met = 0;

        void clear() {
            desks = 0;
            sheets = 0;
            quarter = 0;
            met = 0;
        }

        void takeOver(Office other) {
            System.arraycopy(other.wind, 0, wind, 0, QUARTERS);
            System.arraycopy(other.room, 0, room, 0, DESKS);
            System.arraycopy(other.stones, 0, stones, 0, DESKS);
            System.arraycopy(other.height, 0, height, 0, DESKS);
            System.arraycopy(other.piles, 0, piles, 0, DESKS * ROOMS);
            System.arraycopy(other.sort, 0, sort, 0, SHEETS);
            System.arraycopy(other.worth, 0, worth, 0, SHEETS);
            System.arraycopy(other.need, 0, need, 0, SHEETS);
            desks = other.desks;
            sheets = other.sheets;
            quarter = other.quarter;
            met = other.met;
        }

        boolean isThere() {
            return desks > 0;
        }

        boolean hasDesk(int desk) {
            return desk >= 0 && desk < desks;
        }

        boolean hasSheet(int sheet) {
            return sheet >= 0 && sheet < sheets;
        }

        boolean hasRoom(int desk) {
            return height[desk] < room[desk];
        }

        void furnish(int newRoom, int newStones) {
            if (desks < DESKS) {
                room[desks] = newRoom;
                stones[desks] = newStones;
                height[desks] = 0;
                desks++;
            }
        }

        /** A SHEET more, uppermost on a DESK that has ROOM: its number. */
        int bring(int newSort, int desk, int newWorth, int newNeed) {
            int sheet = sheets;
            if (sheet < SHEETS) {
                sort[sheet] = newSort;
                worth[sheet] = newWorth;
                need[sheet] = newNeed;
                sheets++;
                putOn(sheet, desk);
            }
            return sheet;
        }

        int at(int desk, int place) {
            return piles[desk * ROOMS + place];
        }

        void putOn(int sheet, int desk) {
            if (hasRoom(desk)) {
                piles[desk * ROOMS + height[desk]] = sheet;
                height[desk]++;
            }
        }

        void takeOff(int sheet) {
            int desk = deskOf(sheet);
            if (desk < 0) {
                return;
            }
            int top = height[desk] - 1;
            for (int place = top - above(sheet); place < top; place++) {
                piles[desk * ROOMS + place] = at(desk, place + 1);
            }
            height[desk] = top;
        }

        /** The DESK of a SHEET, -1 of one that is GONE. */
        int deskOf(int sheet) {
            for (int desk = 0; desk < desks; desk++) {
                if ((setOn(desk) >> sheet & 1) != 0) {
                    return desk;
                }
            }
            return -1;
        }

        /** How many lie above a SHEET; of one that is GONE 0. */
        int above(int sheet) {
            int desk = deskOf(sheet);
            if (desk < 0) {
                return 0;
            }
            int above = 0;
            for (int place = height[desk] - 1; place >= 0 && at(desk, place) != sheet; place--) {
                above++;
            }
            return above;
        }

        int setOn(int desk) {
            int set = 0;
            for (int place = 0; place < height[desk]; place++) {
                set |= 1 << at(desk, place);
            }
            return set;
        }

        boolean isGone(int sheet) {
            return deskOf(sheet) < 0;
        }

        boolean isMet(int sheet) {
            return (met >> sheet & 1) != 0;
        }

        boolean isMissed(int sheet) {
            return need[sheet] < QUARTERS && !isMet(sheet) && (isGone(sheet) || quarter > need[sheet]);
        }

        int missedSet() {
            int set = 0;
            for (int sheet = 0; sheet < sheets; sheet++) {
                if (isMissed(sheet)) {
                    set |= 1 << sheet;
                }
            }
            return set;
        }

        int goneSet() {
            int set = (1 << sheets) - 1;
            for (int desk = 0; desk < desks; desk++) {
                set &= ~setOn(desk);
            }
            return set;
        }

        int worthOf(int set) {
            int sum = 0;
            for (int sheet = 0; sheet < sheets; sheet++) {
                if ((set >> sheet & 1) != 0) {
                    sum += worth[sheet];
                }
            }
            return sum;
        }

        /** How many SHEETS n GUSTS take from a DESK: always the uppermost ones, one a GUST. */
        int takenFrom(int desk, int n) {
            int most = Math.min(n, height[desk] - stones[desk]);
            int taken = 0;
            while (taken < most && sort[at(desk, height[desk] - 1 - taken)] != SLATE) {
                taken++;
            }
            return taken;
        }

        int lostFrom(int desk, int n) {
            int lost = 0;
            for (int depth = takenFrom(desk, n); depth > 0; depth--) {
                lost += worth[at(desk, height[desk] - depth)];
            }
            return lost;
        }

        /** SHEETS that a GUST takes ahead of which as many others came as told. */
        int takenByGust(int earlier) {
            int set = 0;
            for (int desk = 0; desk < desks; desk++) {
                if (takenFrom(desk, earlier + 1) > earlier) {
                    set |= 1 << at(desk, height[desk] - 1 - earlier);
                }
            }
            return set;
        }

        int takenBy(int n) {
            int set = 0;
            for (int gust = 0; gust < n; gust++) {
                set |= takenByGust(gust);
            }
            return set;
        }

        /** A GUST comes: SHEETS that are GONE by it. */
        int blow() {
            int set = takenByGust(0);
            for (int desk = 0; desk < desks; desk++) {
                height[desk] -= takenFrom(desk, 1);
            }
            return set;
        }

        /** LOST by one GUST from a DESK on which as many lie as now, and that SHEET uppermost. */
        int lostIfUppermost(int sheet, int desk) {
            return height[desk] > stones[desk] && sort[sheet] != SLATE ? worth[sheet] : 0;
        }

        /** LOST by a GUST through a second window from a DESK: the third SHEET from above. */
        int lostThrough(int desk) {
            int place = height[desk] - 3;
            return place >= stones[desk] && sort[at(desk, place)] != SLATE ? worth[at(desk, place)] : 0;
        }

        /** The SHEET of least WORTH on a DESK that is not empty, of several the lowest. */
        int leastOn(int desk) {
            int least = at(desk, 0);
            for (int place = 1; place < height[desk]; place++) {
                if (worth[at(desk, place)] < worth[least]) {
                    least = at(desk, place);
                }
            }
            return least;
        }
    }

    /** The office as it was ahead of each of the latest acts. */
    private static final class Acts {
        private final Office[] before = new Office[ACTS];
        private int oldest = 0;
        private int kept = 0;

        Acts() {
            for (int i = 0; i < ACTS; i++) {
                before[i] = new Office();
            }
        }

        void keep(Office office) {
            before[(oldest + kept) % ACTS].takeOver(office);
            if (kept < ACTS) {
                kept++;
            } else {
                oldest = (oldest + 1) % ACTS;
            }
        }

        void takeBack(Office office) {
            if (kept > 0) {
                kept--;
                office.takeOver(before[(oldest + kept) % ACTS]);
            }
        }

        void forget() {
            oldest = 0;
            kept = 0;
        }
    }

    /** What the next quarters lose in the mean. */
    private static final class Means {
        private static final int HUNDRED = 100;
        private static final int MOST_STEPS = 100;

        /** Of how many cases by 100 a quarter so many gusts come. */
        private final long[] cases = new long[FORESEEN + 1];
        private int numerator = 0;
        private int denominator = 1;

        void foresee(Office office, int n) {
            weigh(office, n);
            long above = 0;
            long below = 1;
            for (int gusts = 0; gusts <= n; gusts++) {
                above += cases[gusts] * office.worthOf(office.takenBy(gusts));
            }
            for (int i = 0; i < n; i++) {
                below *= HUNDRED;
            }
            long common = commonDivisor(above, below);
            if (common > 0) {
                numerator = (int) (above / common);
                denominator = (int) (below / common);
            }
        }

        private void weigh(Office office, int n) {
            cases[0] = 1;
            for (int come = 0; come < n; come++) {
                int wind = office.wind[office.quarter + come];
                cases[come + 1] = cases[come] * wind;
                for (int gusts = come; gusts > 0; gusts--) {
                    cases[gusts] = cases[gusts] * (HUNDRED - wind) + cases[gusts - 1] * wind;
                }
                cases[0] *= HUNDRED - wind;
            }
        }

        private static long commonDivisor(long a, long b) {
            long divisor = a;
            long rest = b;
            for (int step = 0; step < MOST_STEPS && rest != 0; step++) {
                long next = divisor % rest;
                divisor = rest;
                rest = next;
            }
            return divisor;
        }
    }

    /** The order of a pile by which gusts take the least. */
    private static final class Sorter {
        private final int[] line = new int[ORDERED];
        private int lost = 0;

        /** Of a DESK with no more SHEETS than the line has places. */
        void arrange(Office office, int desk, int n) {
            int height = Math.min(ORDERED, office.height[desk]);
            int reach = Math.max(0, Math.min(n, height - office.stones[desk]));
            int rest = office.setOn(desk);
            lost = leastLost(office, 0, rest, reach);
            for (int placed = 0; placed < height; placed++) {
                line[placed] = firstThatKeepsLost(office, placed, rest, reach);
                rest &= ~(1 << line[placed]);
            }
        }

        private int firstThatKeepsLost(Office office, int placed, int rest, int reach) {
            for (int sheet = 0; sheet < office.sheets; sheet++) {
                if ((rest >> sheet & 1) != 0) {
                    line[placed] = sheet;
                    if (leastLost(office, placed + 1, rest & ~(1 << sheet), reach) == lost) {
                        return sheet;
                    }
                }
            }
            return 0;
        }

        /**
         * The least that can be LOST, if the lowest SHEETS lie as the line tells, the rest above
         * these in any order, and the gusts reach so many SHEETS from above.
         */
        private int leastLost(Office office, int placed, int rest, int reach) {
            int sum = 0;
            int left = rest;
            int depth = 0;
            while (depth < reach && left != 0) {
                int sheet = cheapest(office, left);
                // A slate of the rest is best laid uppermost, where it keeps all.
                if (office.sort[sheet] == SLATE) {
                    return 0;
                }
                sum += office.worth[sheet];
                left &= ~(1 << sheet);
                depth++;
            }
            for (int place = placed - 1; place >= 0 && depth < reach; place--) {
                if (office.sort[line[place]] == SLATE) {
                    return sum;
                }
                sum += office.worth[line[place]];
                depth++;
            }
            return sum;
        }

        /** Any slate of a set that is not empty, else the SHEET of least WORTH. */
        private static int cheapest(Office office, int set) {
            int best = -1;
            for (int sheet = 0; sheet < office.sheets; sheet++) {
                if ((set >> sheet & 1) != 0) {
                    if (office.sort[sheet] == SLATE) {
                        return sheet;
                    }
                    if (best < 0 || office.worth[sheet] < office.worth[best]) {
                        best = sheet;
                    }
                }
            }
            return Math.max(0, best);
        }
    }

    /** The kinds of sheets, and what these answer by their bodies. */
    private static final class Asker {
        private static final int SIZE = 0;
        private static final int MARK = 1;
        private static final int KINDS = 6;
        private static final int TRACED = 16;
        private static final int DEEPEST = 20;
        /** The kind that a kind is, too; -1 above all. */
        private static final int[] WIDER = {-1, 0, 1, 2, 1, 0};
        /** The body that begins for a kind: told for it, or for the nearest one that it is, too. */
        private static final int[] SIZE_BODIES = {10, 11, 11, 12, 14, 13};
        private static final int[] MARK_BODIES = {20, 21, 22, 24, 21, 23};

        private final int[] bodies = new int[TRACED];
        private int left = 0;

        static boolean isKind(int kind) {
            return kind >= 0 && kind < KINDS;
        }

        static boolean isOneOf(int kind, int wanted) {
            int at = kind;
            for (int step = 0; step < KINDS && isKind(at); step++) {
                if (at == wanted) {
                    return true;
                }
                at = WIDER[at];
            }
            return false;
        }

        int begin(Office office, int sheet, int what) {
            left = 0;
            return gives(this, office, bodyFor(office, sheet, what), sheet, 0);
        }

        private static int bodyFor(Office office, int sheet, int what) {
            int kind = office.sort[sheet];
            if (!isKind(kind)) {
                return 0;
            }
            return what == SIZE ? SIZE_BODIES[kind] : MARK_BODIES[kind];
        }

        private void leave(int body) {
            if (left < TRACED) {
                bodies[left] = body;
                left++;
            }
        }

        private static int gives(Asker asker, Office office, int body, int sheet, int depth) {
            if (depth > DEEPEST) {
                return 0;
            }
            asker.leave(body);
            int deeper = depth + 1;
            switch (body) {
                case 10:
                    return office.worth[sheet];
                case 11:
                    return gives(asker, office, 10, sheet, deeper)
                        + gives(asker, office, bodyFor(office, sheet, MARK), sheet, deeper);
                case 12:
                    return -gives(asker, office, 11, sheet, deeper);
                case 13:
                    return gives(asker, office, 10, sheet, deeper) - 100;
                case 14:
                    return 2 * gives(asker, office, 11, sheet, deeper);
                case 20:
                    return sheet;
                case 21:
                    return gives(asker, office, 20, sheet, deeper) + office.need[sheet];
                case 22:
                    return gives(asker, office, 21, sheet, deeper) - 1000;
                case 23:
                    return gives(asker, office, 20, sheet, deeper)
                        - gives(asker, office, bodyFor(office, sheet, SIZE), sheet, deeper);
                case 24:
                    return 2 * gives(asker, office, 22, sheet, deeper);
                default:
                    return 0;
            }
        }
    }
}
