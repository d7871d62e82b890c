import java.util.Arrays;

/**
 * A grid of tracks, told in a text: columns that are fixed, automatic or take shares, items that
 * are placed into the first hole, and the sizes that follow. The document's numbered promises say
 * what each public call answers.
 */
public final class GridTracks {
    public static final int BAD = -1, STATE = -2, FULL = -3, NONE = -4;

    private static final int FIX = 0, AUTO = 1, FLEX = 2;
    private static final int MOST_COLUMNS = 6, PLACING_ROWS = 12, MOST_TALL = 4, MOST_ITEMS = 10;
    private static final int MOST_NEED = 99, MOST_GAP = 20, MOST_WIDTH = 999, MOST_HIGH = 99;
    private static final int MOST_FIX = 99, MOST_FLEX = 9;
    private static final int LETTERS = 8, TAPE_BYTES = 320, IMAGES = 2;
    private static final int SHEETS = 4, LANES = 3, MOST_CELLS = 40, CELLS_OF_ITEM = 4;

    /** What is known of an item; the first four are as item() and set() number them. */
    private static final int WIDE = 0, TALL = 1, NEED_WIDTH = 2, NEED_HEIGHT = 3, PIN_COLUMN = 4, PIN_ROW = 5;
    private static final int FACTS = 6, FACTS_IN_NUMBERS = 4;
    private static final int[] LEAST_FACT = {1, 1, 0, 0};
    private static final int[] MOST_FACT = {MOST_COLUMNS, MOST_TALL, MOST_NEED, MOST_NEED};

    /** Faults of a text. */
    private static final int NO_TOKEN = 1, NOT_THERE = 2, OUT_OF_BOUNDS = 3, NOT_AGAIN = 4, TOO_MANY = 5, NOT_IN_GRID = 6;

    /** Faults of a sheet. */
    private static final int NULL = 1, INDEX = 2, CAST = 3, SIZE = 4;

    /** Kinds of tokens. */
    private static final int END_OF_TAPE = 0, NAME = 1, NUMBER = 2, SEMICOLON = 3, WRONG = 4;

    private final Grid grid;
    private final Teller teller;
    private final Image[] images;
    private final Sheet[] sheets;
    private final Placement placement;
    private final Axis across;
    private final Axis down;
    private final Shares shares;
    private boolean stale;
    private int tornFault;

    public GridTracks() {
        grid = new Grid();
        teller = new Teller();
        images = new Image[IMAGES];
        for (int k = 0; k < IMAGES; k++) {
            images[k] = new Image();
        }
        sheets = new Sheet[SHEETS];
        for (int k = 0; k < SHEETS; k++) {
            sheets[k] = new Sheet();
        }
        placement = new Placement();
        across = new Axis();
        down = new Axis();
        shares = new Shares();
        stale = true;
    }

    // ---- the text

    public int feed(int c) {
        if (!isBetween(c, 0, 127)) {
            return BAD;
        }
        return teller.tokens.append(c) ? teller.tokens.length : FULL;
    }

    public int end(int n) {
        int had = teller.tokens.length;
        if (!isBetween(n, 0, had)) {
            return BAD;
        }
        teller.tokens.length = n;
        return had;
    }

    public int text() {
        int lines = teller.tellAll();
        teller.tokens.length = 0;
        if (teller.fault != 0) {
            return -10 - teller.place;
        }
        grid.become(teller.draft);
        forgetImages();
        stale = true;
        return lines;
    }

    public int fault() {
        return teller.fault;
    }

    public int rule(int what) {
        arrange();
        switch (what) {
            case 0: return grid.columns;
            case 1: return placement.rows;
            case 2: return grid.items;
            case 3: return placement.lost;
            case 4: return grid.width;
            case 5: return grid.gapAcross;
            case 6: return grid.gapDown;
            case 7: return grid.high;
            default: return BAD;
        }
    }

    public int column(int c, int what) {
        if (!isBetween(c, 0, grid.columns - 1)) {
            return BAD;
        }
        arrange();
        switch (what) {
            case 0: return grid.kinds[c];
            case 1: return grid.kinds[c] == AUTO ? NONE : grid.numbers[c];
            case 2: return across.sizes[c];
            case 3: return across.startOf(c);
            default: return BAD;
        }
    }

    public int row(int r, int what) {
        arrange();
        if (!isBetween(r, 0, placement.rows - 1)) {
            return BAD;
        }
        switch (what) {
            case 0: return down.sizes[r];
            case 1: return down.startOf(r);
            default: return BAD;
        }
    }

    public int item(int i, int what) {
        if (!isItem(i) || !isBetween(what, 0, 7)) {
            return BAD;
        }
        if (what < FACTS) {
            return grid.facts[what][i];
        }
        arrange();
        return what == 6 ? placement.columns[i] : placement.firstRows[i];
    }

    public int line(int v) {
        return isBetween(v, 0, LETTERS - 1) ? grid.lines[v] : BAD;
    }

    // ---- what stands where

    public int at(int c, int r) {
        arrange();
        if (!isBetween(c, 0, grid.columns - 1) || !isBetween(r, 0, placement.rows - 1)) {
            return BAD;
        }
        return placement.itemAt(grid, c, r);
    }

    public int box(int i, int what) {
        if (!isItem(i) || !isBetween(what, 0, 3)) {
            return BAD;
        }
        arrange();
        if (placement.isLost(i)) {
            return STATE;
        }
        switch (what) {
            case 0: return across.startOf(placement.columns[i]);
            case 1: return down.startOf(placement.firstRows[i]);
            case 2: return boxWidth(i);
            default: return boxHeight(i);
        }
    }

    public int over(int i, int what) {
        if (!isItem(i) || !isBetween(what, 0, 1)) {
            return BAD;
        }
        arrange();
        if (placement.isLost(i)) {
            return STATE;
        }
        int more = what == 0
            ? grid.facts[NEED_WIDTH][i] - boxWidth(i)
            : grid.facts[NEED_HEIGHT][i] - boxHeight(i);
        return Math.max(0, more);
    }

    public int total(int what) {
        arrange();
        switch (what) {
            case 0: return across.extent(0, grid.columns);
            case 1: return down.extent(0, placement.rows);
            default: return BAD;
        }
    }

    public int empty() {
        arrange();
        return grid.columns * placement.rows - placement.filled;
    }

    public int hole(int w, int h) {
        if (!grid.isItemSize(w, h)) {
            return BAD;
        }
        arrange();
        return placement.firstHole(grid.columns, w, h, NONE, NONE);
    }

    // ---- changes

    public int add(int w, int h, int width, int height) {
        if (!grid.isItem(w, h, width, height)) {
            return BAD;
        }
        if (!grid.append(w, h, width, height)) {
            return FULL;
        }
        stale = true;
        return grid.items;
    }

    public int drop(int i) {
        if (!isItem(i)) {
            return BAD;
        }
        grid.remove(i);
        stale = true;
        return grid.items;
    }

    public int pin(int i, int c, int r) {
        if (!isItem(i) || !grid.isPin(i, c, r)) {
            return BAD;
        }
        grid.facts[PIN_COLUMN][i] = c;
        grid.facts[PIN_ROW][i] = r;
        stale = true;
        return 1;
    }

    public int set(int i, int what, int v) {
        if (!isItem(i) || !isBetween(what, 0, FACTS_IN_NUMBERS - 1)) {
            return BAD;
        }
        if (!isBetween(v, LEAST_FACT[what], MOST_FACT[what])) {
            return BAD;
        }
        int was = grid.facts[what][i];
        grid.facts[what][i] = v;
        if (!grid.isInside(i)) {
            grid.facts[what][i] = was;
            return BAD;
        }
        stale = true;
        return was;
    }

    public int swap(int i, int j) {
        if (!isItem(i) || !isItem(j)) {
            return BAD;
        }
        grid.exchange(i, j);
        stale = true;
        return 1;
    }

    public int track(int c, int kind, int n) {
        if (!isBetween(c, 0, grid.columns - 1) || !isTrack(kind, n)) {
            return BAD;
        }
        int was = grid.kinds[c];
        grid.kinds[c] = kind;
        grid.numbers[c] = n;
        stale = true;
        return was;
    }

    public int width(int w) {
        if (w != NONE && !isBetween(w, 0, MOST_WIDTH)) {
            return BAD;
        }
        int was = grid.width;
        grid.width = w;
        stale = true;
        return was;
    }

    public int gap(int x, int y) {
        if (!isBetween(x, 0, MOST_GAP) || !isBetween(y, 0, MOST_GAP)) {
            return BAD;
        }
        int was = 100 * grid.gapAcross + grid.gapDown;
        grid.gapAcross = x;
        grid.gapDown = y;
        stale = true;
        return was;
    }

    public int high(int v) {
        if (!isBetween(v, 0, MOST_HIGH)) {
            return BAD;
        }
        int was = grid.high;
        grid.high = v;
        stale = true;
        return was;
    }

    public int scatter(int seed, int n) {
        if (!isBetween(n, 1, MOST_ITEMS)) {
            return BAD;
        }
        if (grid.columns <= 0) {
            return STATE;
        }
        int came = 0;
        int next = seed;
        boolean room = true;
        for (int k = 0; k < n && room; k++) {
            next = next * 1103515245 + 12345;
            int got = (next >>> 16) & 0x7fff;
            room = grid.append(got % grid.columns + 1, got / 8 % 3 + 1, got / 32 % 50, got / 2048 % 15);
            came += room ? 1 : 0;
        }
        stale = true;
        return came;
    }

    // ---- images, sheets

    public int keep(int k) {
        Image image = imageOf(k);
        if (image == null) {
            return BAD;
        }
        int was = image.held ? 1 : 0;
        image.grid.become(grid);
        image.held = true;
        return was;
    }

    public int back(int k) {
        Image image = imageOf(k);
        if (image == null) {
            return BAD;
        }
        if (!image.held) {
            return STATE;
        }
        grid.become(image.grid);
        stale = true;
        return grid.items;
    }

    public int sheet(int k, int lane, int n) {
        Sheet sheet = sheetOf(k);
        if (sheet == null || !isLane(lane) || n > MOST_CELLS) {
            return BAD;
        }
        if (n < 0) {
            return -10 - SIZE;
        }
        sheet.renew(lane, n);
        return 1;
    }

    public int lay(int k, int i, int v) {
        Sheet sheet = sheetOf(k);
        if (sheet == null) {
            return BAD;
        }
        int fault = sheet.faultOf(i, 1);
        if (fault != 0) {
            return -10 - fault;
        }
        sheet.write(i, v);
        return 1;
    }

    public int read(int k, int lane, int f, int n) {
        Sheet sheet = sheetOf(k);
        if (sheet == null || !isLane(lane) || !isBetween(n, 0, MOST_ITEMS)) {
            return BAD;
        }
        int before = grid.items;
        int came = 0;
        int fault = 0;
        for (int i = 0; i < n && fault == 0; i++) {
            long from = f + (long) CELLS_OF_ITEM * i;
            fault = sheet.faultAs(lane, from, CELLS_OF_ITEM);
            if (fault == 0) {
                if (!takeItem(sheet, (int) from)) {
                    grid.items = before;
                    return -20 - i;
                }
                came++;
            }
        }
        tornFault = fault;
        return came;
    }

    public int torn() {
        return tornFault;
    }

    public int count(int what) {
        switch (what) {
            case 0: return heldImages();
            case 1: return grid.pinnedItems();
            case 2: return teller.tokens.length;
            case 3: return cellsOf(0);
            case 4: return grid.allShares();
            case 5: return grid.allNeedsInWidth();
            default: return BAD;
        }
    }

    // ---- what the calls above share

    private static boolean isBetween(int v, int least, int most) {
        return v >= least && v <= most;
    }

    private static boolean isLane(int lane) {
        return isBetween(lane, 0, LANES - 1);
    }

    private static boolean isTrack(int kind, int n) {
        switch (kind) {
            case FIX: return isBetween(n, 0, MOST_FIX);
            case AUTO: return n == 0;
            case FLEX: return isBetween(n, 1, MOST_FLEX);
            default: return false;
        }
    }

    private boolean isItem(int i) {
        return isBetween(i, 0, grid.items - 1);
    }

    private Image imageOf(int k) {
        return isBetween(k, 0, IMAGES - 1) ? images[k] : null;
    }

    private Sheet sheetOf(int k) {
        return isBetween(k, 0, SHEETS - 1) ? sheets[k] : null;
    }

    private int heldImages() {
        int held = 0;
        for (int k = 0; k < IMAGES; k++) {
            Image image = imageOf(k);
            if (image != null && image.held) {
                held++;
            }
        }
        return held;
    }

    private void forgetImages() {
        for (int k = 0; k < IMAGES; k++) {
            Image image = imageOf(k);
            if (image != null) {
                image.held = false;
            }
        }
    }

    private int cellsOf(int k) {
        Sheet sheet = sheetOf(k);
        return sheet == null ? NONE : sheet.length;
    }

    private boolean takeItem(Sheet sheet, int from) {
        return add(sheet.cells[from], sheet.cells[from + 1], sheet.cells[from + 2], sheet.cells[from + 3]) > 0;
    }

    private int boxWidth(int i) {
        return across.extent(placement.columns[i], grid.facts[WIDE][i]);
    }

    private int boxHeight(int i) {
        return down.extent(placement.firstRows[i], grid.facts[TALL][i]);
    }

    /** Places and sizes are found when they are asked for, since most calls only change the grid. */
    private void arrange() {
        if (!stale) {
            return;
        }
        stale = false;
        placement.placeAll(grid);
        measureColumns();
        measureRows();
    }

    private void measureColumns() {
        across.begin(grid.columns, grid.gapAcross);
        for (int c = 0; c < grid.columns; c++) {
            across.put(c, grid.kinds[c], grid.numbers[c], grid.kinds[c] == FIX ? grid.numbers[c] : 0);
        }
        for (int i = 0; i < grid.items; i++) {
            if (!placement.isLost(i)) {
                across.admit(placement.columns[i], grid.facts[WIDE][i], grid.facts[NEED_WIDTH][i]);
            }
        }
        for (int wide = 1; wide <= MOST_COLUMNS; wide++) {
            across.growBy(wide);
        }
        if (grid.width == NONE) {
            shares.dealByNeed(across);
        } else {
            shares.dealByWidth(across, grid.width);
        }
    }

    private void measureRows() {
        down.begin(placement.rows, grid.gapDown);
        for (int r = 0; r < placement.rows; r++) {
            down.put(r, AUTO, 0, grid.high);
        }
        for (int i = 0; i < grid.items; i++) {
            if (!placement.isLost(i)) {
                down.admit(placement.firstRows[i], grid.facts[TALL][i], grid.facts[NEED_HEIGHT][i]);
            }
        }
        for (int tall = 1; tall <= MOST_TALL; tall++) {
            down.growBy(tall);
        }
    }

    /** What a text tells and an image keeps. */
    private static final class Grid {
        int columns;
        final int[] kinds = new int[MOST_COLUMNS];
        final int[] numbers = new int[MOST_COLUMNS];
        int gapAcross;
        int gapDown;
        int width;
        int high;
        int items;
        final int[][] facts = new int[FACTS][MOST_ITEMS];
        final int[] lines = new int[LETTERS];

        Grid() {
            width = NONE;
            Arrays.fill(lines, NONE);
        }

        void clear() {
            columns = 0;
            gapAcross = 0;
            gapDown = 0;
            width = NONE;
            high = 0;
            items = 0;
            Arrays.fill(lines, NONE);
        }

        void become(Grid other) {
            columns = other.columns;
            System.arraycopy(other.kinds, 0, kinds, 0, MOST_COLUMNS);
            System.arraycopy(other.numbers, 0, numbers, 0, MOST_COLUMNS);
            gapAcross = other.gapAcross;
            gapDown = other.gapDown;
            width = other.width;
            high = other.high;
            items = other.items;
            for (int what = 0; what < FACTS; what++) {
                System.arraycopy(other.facts[what], 0, facts[what], 0, MOST_ITEMS);
            }
            System.arraycopy(other.lines, 0, lines, 0, LETTERS);
        }

        boolean isItemSize(int wide, int tall) {
            return isBetween(wide, 1, columns) && isBetween(tall, 1, MOST_TALL);
        }

        boolean isItem(int wide, int tall, int needWidth, int needHeight) {
            return isItemSize(wide, tall)
                && isBetween(needWidth, 0, MOST_NEED) && isBetween(needHeight, 0, MOST_NEED);
        }

        boolean isPin(int i, int c, int r) {
            return (c == NONE || isBetween(c, 0, columns - facts[WIDE][i]))
                && (r == NONE || isBetween(r, 0, PLACING_ROWS - facts[TALL][i]));
        }

        boolean isInside(int i) {
            return facts[WIDE][i] <= columns && isPin(i, facts[PIN_COLUMN][i], facts[PIN_ROW][i]);
        }

        /** Tells whether there was room for one item more. */
        boolean append(int wide, int tall, int needWidth, int needHeight) {
            if (items >= MOST_ITEMS) {
                return false;
            }
            facts[WIDE][items] = wide;
            facts[TALL][items] = tall;
            facts[NEED_WIDTH][items] = needWidth;
            facts[NEED_HEIGHT][items] = needHeight;
            facts[PIN_COLUMN][items] = NONE;
            facts[PIN_ROW][items] = NONE;
            items++;
            return true;
        }

        void remove(int i) {
            for (int what = 0; what < FACTS; what++) {
                for (int k = i; k + 1 < items; k++) {
                    facts[what][k] = facts[what][k + 1];
                }
            }
            items--;
        }

        void exchange(int i, int j) {
            for (int what = 0; what < FACTS; what++) {
                int one = facts[what][i];
                facts[what][i] = facts[what][j];
                facts[what][j] = one;
            }
        }

        int pinnedItems() {
            int pinned = 0;
            for (int i = 0; i < items; i++) {
                if (facts[PIN_COLUMN][i] != NONE || facts[PIN_ROW][i] != NONE) {
                    pinned++;
                }
            }
            return pinned;
        }

        int allShares() {
            int all = 0;
            for (int c = 0; c < columns; c++) {
                if (kinds[c] == FLEX) {
                    all += numbers[c];
                }
            }
            return all;
        }

        int allNeedsInWidth() {
            int all = 0;
            for (int i = 0; i < items; i++) {
                all += facts[NEED_WIDTH][i];
            }
            return all;
        }
    }

    /** A grid that is kept; its rows are made once and used again. */
    private static final class Image {
        final Grid grid = new Grid();
        boolean held;
    }

    /** Where each item stands. */
    private static final class Placement {
        final int[] columns = new int[MOST_ITEMS];
        final int[] firstRows = new int[MOST_ITEMS];
        /** Bit c of taken[r]: some item is at column c, row r. */
        private final int[] taken = new int[PLACING_ROWS];
        int rows;
        int lost;
        int filled;

        void placeAll(Grid grid) {
            Arrays.fill(taken, 0);
            rows = 0;
            lost = 0;
            filled = 0;
            for (int turn = 0; turn < 3; turn++) {
                for (int i = 0; i < grid.items; i++) {
                    if (turnOf(grid, i) == turn) {
                        place(grid, i);
                    }
                }
            }
        }

        boolean isLost(int i) {
            return columns[i] == NONE;
        }

        int itemAt(Grid grid, int c, int r) {
            for (int i = 0; i < grid.items; i++) {
                if (!isLost(i) && isBetween(c - columns[i], 0, grid.facts[WIDE][i] - 1)
                    && isBetween(r - firstRows[i], 0, grid.facts[TALL][i] - 1)) {
                    return i;
                }
            }
            return NONE;
        }

        /** 100 times the row and the column of the first hole from the top that the pins allow, or NONE. */
        int firstHole(int width, int wide, int tall, int pinColumn, int pinRow) {
            int fromColumn = pinColumn == NONE ? 0 : pinColumn;
            int toColumn = pinColumn == NONE ? width - wide : pinColumn;
            int fromRow = pinRow == NONE ? 0 : pinRow;
            int toRow = pinRow == NONE ? PLACING_ROWS - tall : pinRow;
            for (int r = fromRow; r <= toRow; r++) {
                for (int c = fromColumn; c <= toColumn; c++) {
                    if (isFree(c, r, wide, tall)) {
                        return 100 * r + c;
                    }
                }
            }
            return NONE;
        }

        private static int turnOf(Grid grid, int i) {
            if (grid.facts[PIN_ROW][i] == NONE) {
                return 2;
            }
            return grid.facts[PIN_COLUMN][i] == NONE ? 1 : 0;
        }

        private void place(Grid grid, int i) {
            int wide = grid.facts[WIDE][i];
            int tall = grid.facts[TALL][i];
            int hole = firstHole(grid.columns, wide, tall, grid.facts[PIN_COLUMN][i], grid.facts[PIN_ROW][i]);
            if (hole == NONE) {
                columns[i] = NONE;
                firstRows[i] = NONE;
                lost++;
                return;
            }
            columns[i] = hole % 100;
            firstRows[i] = hole / 100;
            for (int r = firstRows[i]; r < firstRows[i] + tall; r++) {
                taken[r] |= bits(columns[i], wide);
            }
            filled += wide * tall;
            rows = Math.max(rows, firstRows[i] + tall);
        }

        private boolean isFree(int c, int r, int wide, int tall) {
            for (int k = r; k < r + tall; k++) {
                if ((taken[k] & bits(c, wide)) != 0) {
                    return false;
                }
            }
            return true;
        }

        private static int bits(int c, int wide) {
            return ((1 << wide) - 1) << c;
        }
    }

    /** The tracks of one direction, and the items that are placed in them. */
    private static final class Axis {
        int tracks;
        private int gap;
        final int[] kinds = new int[PLACING_ROWS];
        final int[] numbers = new int[PLACING_ROWS];
        final int[] sizes = new int[PLACING_ROWS];
        private final int[] growth = new int[PLACING_ROWS];
        int guests;
        final int[] firsts = new int[MOST_ITEMS];
        final int[] spans = new int[MOST_ITEMS];
        final int[] needs = new int[MOST_ITEMS];

        void begin(int trackCount, int gapBetween) {
            tracks = trackCount;
            gap = gapBetween;
            guests = 0;
        }

        void put(int t, int kind, int number, int size) {
            kinds[t] = kind;
            numbers[t] = number;
            sizes[t] = size;
        }

        void admit(int first, int span, int need) {
            firsts[guests] = first;
            spans[guests] = span;
            needs[guests] = need;
            guests++;
        }

        int startOf(int t) {
            int start = 0;
            for (int k = 0; k < t; k++) {
                start += sizes[k] + gap;
            }
            return start;
        }

        /** The sizes of some tracks and the gaps between them. */
        int extent(int first, int span) {
            int all = span > 1 ? gap * (span - 1) : 0;
            for (int t = first; t < first + span; t++) {
                all += sizes[t];
            }
            return all;
        }

        int lack(int guest) {
            return needs[guest] - extent(firsts[guest], spans[guest]);
        }

        int flexShares(int guest) {
            int all = 0;
            for (int t = firsts[guest]; t < firsts[guest] + spans[guest]; t++) {
                if (kinds[t] == FLEX) {
                    all += numbers[t];
                }
            }
            return all;
        }

        /** All of one span at once: what one item deals is not seen by the next. */
        void growBy(int span) {
            Arrays.fill(growth, 0);
            for (int g = 0; g < guests; g++) {
                if (spans[g] == span && flexShares(g) == 0) {
                    deal(g);
                }
            }
            for (int t = 0; t < tracks; t++) {
                sizes[t] += growth[t];
            }
        }

        private void deal(int guest) {
            int autos = autosOf(guest);
            int lack = lack(guest);
            if (autos == 0 || lack <= 0) {
                return;
            }
            int each = lack / autos;
            int more = lack % autos;
            for (int t = firsts[guest]; t < firsts[guest] + spans[guest]; t++) {
                if (kinds[t] == AUTO) {
                    growth[t] = Math.max(growth[t], more > 0 ? each + 1 : each);
                    more--;
                }
            }
        }

        private int autosOf(int guest) {
            int autos = 0;
            for (int t = firsts[guest]; t < firsts[guest] + spans[guest]; t++) {
                if (kinds[t] == AUTO) {
                    autos++;
                }
            }
            return autos;
        }
    }

    /** Gives the flex tracks of an axis their sizes, which are 0 till then. */
    private static final class Shares {
        private final int[] least = new int[PLACING_ROWS];
        /** Bit t: track t is frozen at its least. */
        private int frozen;

        void dealByNeed(Axis axis) {
            int share = 0;
            for (int g = 0; g < axis.guests; g++) {
                int all = axis.flexShares(g);
                int lack = axis.lack(g);
                if (all > 0 && lack > 0) {
                    share = Math.max(share, (lack + all - 1) / all);
                }
            }
            for (int t = 0; t < axis.tracks; t++) {
                if (axis.kinds[t] == FLEX) {
                    axis.sizes[t] = share * axis.numbers[t];
                }
            }
        }

        void dealByWidth(Axis axis, int width) {
            int left = Math.max(0, width - axis.extent(0, axis.tracks));
            findLeast(axis);
            frozen = 0;
            boolean more = true;
            for (int round = 0; round <= axis.tracks && more; round++) {
                more = freeze(axis, left);
            }
            dealParts(axis, left);
        }

        private void findLeast(Axis axis) {
            Arrays.fill(least, 0);
            for (int g = 0; g < axis.guests; g++) {
                if (axis.spans[g] == 1) {
                    int t = axis.firsts[g];
                    least[t] = Math.max(least[t], axis.needs[g]);
                }
            }
        }

        private boolean isFrozen(int t) {
            return (frozen & 1 << t) != 0;
        }

        private boolean isOpen(Axis axis, int t) {
            return axis.kinds[t] == FLEX && !isFrozen(t);
        }

        private int openShares(Axis axis) {
            int all = 0;
            for (int t = 0; t < axis.tracks; t++) {
                if (isOpen(axis, t)) {
                    all += axis.numbers[t];
                }
            }
            return all;
        }

        private int openWidth(Axis axis, int left) {
            int open = left;
            for (int t = 0; t < axis.tracks; t++) {
                if (isFrozen(t)) {
                    open -= axis.sizes[t];
                }
            }
            return Math.max(0, open);
        }

        /** One round, by the parts as they were ahead of it; tells whether any was frozen. */
        private boolean freeze(Axis axis, int left) {
            int all = openShares(axis);
            int open = openWidth(axis, left);
            boolean any = false;
            for (int t = 0; t < axis.tracks; t++) {
                // multiplied on both sides, since parts are not cut here
                if (isOpen(axis, t) && least[t] * all > open * axis.numbers[t]) {
                    axis.sizes[t] = least[t];
                    frozen |= 1 << t;
                    any = true;
                }
            }
            return any;
        }

        private void dealParts(Axis axis, int left) {
            int all = openShares(axis);
            if (all <= 0) {
                return;
            }
            int open = openWidth(axis, left);
            int rest = open;
            for (int t = 0; t < axis.tracks; t++) {
                if (isOpen(axis, t)) {
                    axis.sizes[t] = open * axis.numbers[t] / all;
                    rest -= axis.sizes[t];
                }
            }
            for (int t = 0; t < axis.tracks && rest > 0; t++) {
                if (isOpen(axis, t)) {
                    axis.sizes[t]++;
                    rest--;
                }
            }
        }
    }

    /** A row of cells of a lane; it is nothing while its length is NONE. */
    private static final class Sheet {
        final int[] cells = new int[MOST_CELLS];
        private int lane;
        int length;

        Sheet() {
            length = NONE;
        }

        void renew(int newLane, int n) {
            lane = newLane;
            length = n;
            Arrays.fill(cells, 0);
        }

        /** What the machine finds when cells are taken as of a lane; it casts a row ahead of looking for a cell. */
        int faultAs(int asLane, long from, int n) {
            return length != NONE && lane != asLane ? CAST : faultOf(from, n);
        }

        /** What the machine finds when some cells are taken one behind another. */
        int faultOf(long from, int n) {
            if (length == NONE) {
                return NULL;
            }
            return from < 0 || from + n > length ? INDEX : 0;
        }

        void write(int i, int v) {
            switch (lane) {
                case 0: cells[i] = (byte) v; break;
                case 1: cells[i] = (short) v; break;
                default: cells[i] = v; break;
            }
        }
    }

    /** The tape, and the token that was read of it latest. */
    private static final class Tokens {
        private final byte[] tape = new byte[TAPE_BYTES];
        int length;
        int kind;
        int start;
        int value;
        private int behind;

        boolean append(int c) {
            if (length >= TAPE_BYTES) {
                return false;
            }
            tape[length] = (byte) c;
            length++;
            return true;
        }

        void rewind() {
            behind = 0;
        }

        void advance() {
            while (behind < length && tape[behind] == ' ') {
                behind++;
            }
            start = behind;
            value = 0;
            if (start >= length) {
                kind = END_OF_TAPE;
                return;
            }
            while (behind < length && tape[behind] >= 'a' && tape[behind] <= 'z') {
                behind++;
            }
            if (behind > start) {
                kind = NAME;
                return;
            }
            while (behind < length && tape[behind] >= '0' && tape[behind] <= '9') {
                value = 10 * value + tape[behind] - '0';
                behind++;
            }
            if (behind > start) {
                kind = behind - start <= 3 ? NUMBER : WRONG;
                return;
            }
            kind = tape[start] == ';' ? SEMICOLON : WRONG;
            behind++;
        }

        boolean isName(String name) {
            if (kind != NAME || behind - start != name.length()) {
                return false;
            }
            for (int k = 0; k < name.length(); k++) {
                if (tape[start + k] != name.charAt(k)) {
                    return false;
                }
            }
            return true;
        }

        /** The line, 0 to 7, whose letter the token is, or NONE. */
        int letter() {
            if (kind != NAME || behind - start != 1 || tape[start] - 'a' >= LETTERS) {
                return NONE;
            }
            return tape[start] - 'a';
        }
    }

    /**
     * Reads a text into a draft. Each method that tells a boolean answers whether it was taken; if
     * not, fault and place tell why not.
     */
    private static final class Teller {
        final Tokens tokens = new Tokens();
        final Grid draft = new Grid();
        int fault;
        int place;
        private boolean columnsTold;
        private boolean gapTold;
        private boolean widthTold;
        private boolean highTold;

        /** How many lines the tape has, if it has no fault. */
        int tellAll() {
            clear();
            int lines = 0;
            tokens.advance();
            while (lines < TAPE_BYTES && tokens.kind != END_OF_TAPE) {
                if (!takeLine()) {
                    return NONE;
                }
                lines++;
                tokens.advance();
            }
            if (!isDraftWhole()) {
                fault = NOT_IN_GRID;
                place = tokens.length;
            }
            return lines;
        }

        private void clear() {
            tokens.rewind();
            draft.clear();
            fault = 0;
            place = 0;
            columnsTold = false;
            gapTold = false;
            widthTold = false;
            highTold = false;
        }

        private boolean isDraftWhole() {
            for (int i = 0; i < draft.items; i++) {
                if (!draft.isInside(i)) {
                    return false;
                }
            }
            for (int v = 0; v < LETTERS; v++) {
                if (draft.lines[v] > draft.columns) {
                    return false;
                }
            }
            return true;
        }

        private boolean takeLine() {
            if (tokens.isName("cols")) {
                return takeColumns();
            }
            if (tokens.isName("gap")) {
                return takeGap();
            }
            if (tokens.isName("width")) {
                return takeWidth();
            }
            if (tokens.isName("high")) {
                return takeHigh();
            }
            if (tokens.isName("line")) {
                return takeNamedLine();
            }
            return tokens.isName("item") ? takeItemLine() : refuseToken();
        }

        private boolean takeColumns() {
            if (columnsTold) {
                return refuse(NOT_AGAIN);
            }
            columnsTold = true;
            int times = 1;
            tokens.advance();
            if (tokens.isName("repeat")) {
                if (!takeNumber(1, MOST_COLUMNS)) {
                    return false;
                }
                times = tokens.value;
                tokens.advance();
            }
            int tracks = 0;
            // tracks too many are read as well, since their own faults are met ahead of the line's end
            while (tracks == 0 || (tracks < TAPE_BYTES && tokens.kind != SEMICOLON)) {
                if (!takeTrack(tracks)) {
                    return false;
                }
                tracks++;
                tokens.advance();
            }
            return repeatTracks(tracks, times);
        }

        private boolean takeTrack(int c) {
            int kind = trackKind();
            if (kind == NONE) {
                return refuseToken();
            }
            if ((kind == FIX && !takeNumber(0, MOST_FIX)) || (kind == FLEX && !takeNumber(1, MOST_FLEX))) {
                return false;
            }
            if (c < MOST_COLUMNS) {
                draft.kinds[c] = kind;
                draft.numbers[c] = kind == AUTO ? 0 : tokens.value;
            }
            return true;
        }

        private int trackKind() {
            if (tokens.isName("fix")) {
                return FIX;
            }
            if (tokens.isName("auto")) {
                return AUTO;
            }
            return tokens.isName("flex") ? FLEX : NONE;
        }

        private boolean repeatTracks(int tracks, int times) {
            if (tracks * times > MOST_COLUMNS) {
                return refuse(TOO_MANY);
            }
            for (int c = tracks; c < tracks * times; c++) {
                draft.kinds[c] = draft.kinds[c - tracks];
                draft.numbers[c] = draft.numbers[c - tracks];
            }
            draft.columns = tracks * times;
            return true;
        }

        private boolean takeGap() {
            if (gapTold) {
                return refuse(NOT_AGAIN);
            }
            gapTold = true;
            if (!takeNumber(0, MOST_GAP)) {
                return false;
            }
            draft.gapAcross = tokens.value;
            if (!takeNumber(0, MOST_GAP)) {
                return false;
            }
            draft.gapDown = tokens.value;
            return takeSemicolon();
        }

        private boolean takeWidth() {
            if (widthTold) {
                return refuse(NOT_AGAIN);
            }
            widthTold = true;
            if (!takeNumber(0, MOST_WIDTH)) {
                return false;
            }
            draft.width = tokens.value;
            return takeSemicolon();
        }

        private boolean takeHigh() {
            if (highTold) {
                return refuse(NOT_AGAIN);
            }
            highTold = true;
            if (!takeNumber(0, MOST_HIGH)) {
                return false;
            }
            draft.high = tokens.value;
            return takeSemicolon();
        }

        private boolean takeNamedLine() {
            tokens.advance();
            int v = tokens.letter();
            if (v == NONE) {
                return refuseToken();
            }
            if (draft.lines[v] != NONE) {
                return refuse(NOT_AGAIN);
            }
            if (!takeNumber(0, MOST_COLUMNS)) {
                return false;
            }
            draft.lines[v] = tokens.value;
            return takeSemicolon();
        }

        private boolean takeItemLine() {
            int i = draft.items;
            if (!draft.append(1, 1, 0, 0)) {
                return refuse(TOO_MANY);
            }
            for (int what = 0; what < FACTS_IN_NUMBERS; what++) {
                if (!takeNumber(LEAST_FACT[what], MOST_FACT[what])) {
                    return false;
                }
                draft.facts[what][i] = tokens.value;
            }
            tokens.advance();
            for (int pins = 0; pins < 2 && tokens.kind != SEMICOLON; pins++) {
                if (!takePin(i)) {
                    return false;
                }
                tokens.advance();
            }
            // with both pins told one more is refused, whichever it is
            return tokens.kind == SEMICOLON || takePin(i);
        }

        private boolean takePin(int i) {
            boolean isRow = tokens.isName("row");
            boolean isLetter = tokens.isName("at");
            if (!isRow && !isLetter && !tokens.isName("col")) {
                return refuseToken();
            }
            int what = isRow ? PIN_ROW : PIN_COLUMN;
            if (draft.facts[what][i] != NONE) {
                return refuse(NOT_AGAIN);
            }
            if (isLetter) {
                return takePinLetter(i);
            }
            if (!takeNumber(0, isRow ? PLACING_ROWS - 1 : MOST_COLUMNS - 1)) {
                return false;
            }
            draft.facts[what][i] = tokens.value;
            return true;
        }

        private boolean takePinLetter(int i) {
            tokens.advance();
            int v = tokens.letter();
            if (v == NONE) {
                return refuseToken();
            }
            if (draft.lines[v] == NONE) {
                return refuse(NOT_AGAIN);
            }
            draft.facts[PIN_COLUMN][i] = draft.lines[v];
            return true;
        }

        private boolean takeNumber(int least, int most) {
            tokens.advance();
            if (tokens.kind != NUMBER) {
                return refuseToken();
            }
            return isBetween(tokens.value, least, most) || refuse(OUT_OF_BOUNDS);
        }

        private boolean takeSemicolon() {
            tokens.advance();
            return tokens.kind == SEMICOLON || refuseToken();
        }

        private boolean refuse(int why) {
            fault = why;
            place = tokens.start;
            return false;
        }

        private boolean refuseToken() {
            fault = tokens.kind == WRONG ? NO_TOKEN : NOT_THERE;
            place = tokens.start;
            return false;
        }
    }
}
