import java.util.ArrayList;
import java.util.List;
import java.util.regex.Matcher;
import java.util.regex.Pattern;

/**
 * The document once more, written in another way and without regard to cost: lists, a map of cells
 * painted anew for each question, and exceptions for the faults of a text. RandomRunsTest compares
 * it with the class.
 */
final class Model {
    static final class Piece {
        int[] facts = {1, 1, 0, 0, -4, -4};
        int column = -4;
        int row = -4;

        Piece copy() {
            Piece p = new Piece();
            p.facts = facts.clone();
            return p;
        }
    }

    static final class State {
        List<int[]> tracks = new ArrayList<>();
        List<Piece> pieces = new ArrayList<>();
        Integer[] lines = new Integer[8];
        int gapX;
        int gapY;
        Integer width;
        int high;

        State copy() {
            State s = new State();
            for (int[] t : tracks) {
                s.tracks.add(t.clone());
            }
            for (Piece p : pieces) {
                s.pieces.add(p.copy());
            }
            s.lines = lines.clone();
            s.gapX = gapX;
            s.gapY = gapY;
            s.width = width;
            s.high = high;
            return s;
        }
    }

    private static final class TextFault extends Exception {
        private static final long serialVersionUID = 1L;
        final int number;
        final int place;

        TextFault(int number, int place) {
            this.number = number;
            this.place = place;
        }
    }

    private State s = new State();
    private final State[] images = new State[2];
    private final Object[] sheets = new Object[4];
    private final StringBuilder tape = new StringBuilder();
    private int fault;
    private int torn;

    // ---- the text

    int feed(int c) {
        if (c < 0 || c > 127) {
            return -1;
        }
        if (tape.length() == 320) {
            return -3;
        }
        tape.append((char) c);
        return tape.length();
    }

    int end(int n) {
        if (n < 0 || n > tape.length()) {
            return -1;
        }
        int had = tape.length();
        tape.setLength(n);
        return had;
    }

    int text() {
        String all = tape.toString();
        tape.setLength(0);
        try {
            TextOf t = new TextOf(all);
            t.run();
            s = t.told;
            images[0] = null;
            images[1] = null;
            fault = 0;
            return t.lineCount;
        } catch (TextFault f) {
            fault = f.number;
            return -10 - f.place;
        }
    }

    int fault() {
        return fault;
    }

    /** A text that is being read. */
    private static final class TextOf {
        private static final Pattern TOKEN = Pattern.compile(" *([a-z]+|[0-9]+|;|.)", Pattern.DOTALL);
        final String all;
        final Matcher matcher;
        final State told = new State();
        final List<String> once = new ArrayList<>();
        int lineCount;
        String token;
        int place;

        TextOf(String all) {
            this.all = all;
            matcher = TOKEN.matcher(all);
        }

        void next() throws TextFault {
            int from = token == null ? 0 : place + token.length();
            boolean more = matcher.find(from) && !matcher.group(1).equals(" ");
            token = more ? matcher.group(1) : "";
            place = more ? matcher.start(1) : all.length();
            if (more && !token.matches("[a-z]+|[0-9]{1,3}|;")) {
                throw new TextFault(1, place);
            }
        }

        int number(int least, int most) throws TextFault {
            next();
            if (!token.matches("[0-9]+")) {
                throw new TextFault(2, place);
            }
            int n = Integer.parseInt(token);
            if (n < least || n > most) {
                throw new TextFault(3, place);
            }
            return n;
        }

        int letter() throws TextFault {
            next();
            if (!token.matches("[a-h]")) {
                throw new TextFault(2, place);
            }
            return token.charAt(0) - 'a';
        }

        void semicolon() throws TextFault {
            next();
            if (!token.equals(";")) {
                throw new TextFault(2, place);
            }
        }

        void run() throws TextFault {
            next();
            while (!token.isEmpty()) {
                line();
                lineCount++;
                next();
            }
            behindAll();
        }

        void line() throws TextFault {
            if (token.matches("cols|gap|width|high")) {
                if (once.contains(token)) {
                    throw new TextFault(4, place);
                }
                once.add(token);
            }
            switch (token) {
                case "cols" -> cols();
                case "gap" -> {
                    told.gapX = number(0, 20);
                    told.gapY = number(0, 20);
                    semicolon();
                }
                case "width" -> {
                    told.width = number(0, 999);
                    semicolon();
                }
                case "high" -> {
                    told.high = number(0, 99);
                    semicolon();
                }
                case "line" -> {
                    int v = letter();
                    if (told.lines[v] != null) {
                        throw new TextFault(4, place);
                    }
                    told.lines[v] = number(0, 6);
                    semicolon();
                }
                case "item" -> item();
                default -> throw new TextFault(2, place);
            }
        }

        void cols() throws TextFault {
            int times = 1;
            next();
            if (token.equals("repeat")) {
                times = number(1, 6);
                next();
            }
            List<int[]> some = new ArrayList<>();
            do {
                if (!token.matches("fix|auto|flex")) {
                    throw new TextFault(2, place);
                }
                switch (token) {
                    case "fix" -> some.add(new int[] {0, number(0, 99)});
                    case "flex" -> some.add(new int[] {2, number(1, 9)});
                    default -> some.add(new int[] {1, 0});
                }
                next();
            } while (!token.equals(";"));
            for (int k = 0; k < times; k++) {
                for (int[] t : some) {
                    told.tracks.add(t.clone());
                }
            }
            if (told.tracks.size() > 6) {
                throw new TextFault(5, place);
            }
        }

        void item() throws TextFault {
            if (told.pieces.size() == 10) {
                throw new TextFault(5, place);
            }
            Piece p = new Piece();
            p.facts = new int[] {number(1, 6), number(1, 4), number(0, 99), number(0, 99), -4, -4};
            told.pieces.add(p);
            for (next(); !token.equals(";"); next()) {
                if (!token.matches("at|col|row")) {
                    throw new TextFault(2, place);
                }
                int which = token.equals("row") ? 5 : 4;
                if (p.facts[which] != -4) {
                    throw new TextFault(4, place);
                }
                if (token.equals("at")) {
                    int v = letter();
                    if (told.lines[v] == null) {
                        throw new TextFault(4, place);
                    }
                    p.facts[4] = told.lines[v];
                } else {
                    p.facts[which] = number(0, which == 5 ? 11 : 5);
                }
            }
        }

        void behindAll() throws TextFault {
            boolean good = true;
            for (Piece p : told.pieces) {
                good &= Math.max(0, p.facts[4]) + p.facts[0] <= told.tracks.size();
                good &= Math.max(0, p.facts[5]) + p.facts[1] <= 12;
            }
            for (Integer l : told.lines) {
                good &= l == null || l <= told.tracks.size();
            }
            if (!good) {
                throw new TextFault(6, all.length());
            }
        }
    }

    int rule(int what) {
        paint();
        int[] all = {s.tracks.size(), rowCount(), s.pieces.size(), lost(), s.width == null ? -4 : s.width, s.gapX, s.gapY, s.high};
        return what < 0 || what > 7 ? -1 : all[what];
    }

    int column(int c, int what) {
        if (c < 0 || c >= s.tracks.size() || what < 0 || what > 3) {
            return -1;
        }
        int[] t = s.tracks.get(c);
        int[] sizes = columnSizes();
        return new int[] {t[0], t[0] == 1 ? -4 : t[1], sizes[c], start(sizes, s.gapX, c)}[what];
    }

    int row(int r, int what) {
        paint();
        if (r < 0 || r >= rowCount() || what < 0 || what > 1) {
            return -1;
        }
        int[] sizes = rowSizes();
        return what == 0 ? sizes[r] : start(sizes, s.gapY, r);
    }

    int item(int i, int what) {
        if (noPiece(i) || what < 0 || what > 7) {
            return -1;
        }
        paint();
        Piece p = s.pieces.get(i);
        return what < 6 ? p.facts[what] : what == 6 ? p.column : p.row;
    }

    int line(int v) {
        return v < 0 || v > 7 ? -1 : s.lines[v] == null ? -4 : s.lines[v];
    }

    // ---- what stands where

    /** Places all items; cell [r][c] tells which one is there, -4 that none is. */
    private int[][] paint() {
        int[][] cells = new int[12][s.tracks.size()];
        for (int[] row : cells) {
            java.util.Arrays.fill(row, -4);
        }
        for (Piece p : s.pieces) {
            p.column = -4;
            p.row = -4;
        }
        for (int i = 0; i < s.pieces.size(); i++) {
            if (s.pieces.get(i).facts[4] != -4 && s.pieces.get(i).facts[5] != -4) {
                paint(cells, i);
            }
        }
        for (int i = 0; i < s.pieces.size(); i++) {
            if (s.pieces.get(i).facts[4] == -4 && s.pieces.get(i).facts[5] != -4) {
                paint(cells, i);
            }
        }
        for (int i = 0; i < s.pieces.size(); i++) {
            if (s.pieces.get(i).facts[5] == -4) {
                paint(cells, i);
            }
        }
        return cells;
    }

    private void paint(int[][] cells, int i) {
        Piece p = s.pieces.get(i);
        for (int r = 0; r < 12; r++) {
            for (int c = 0; c < s.tracks.size(); c++) {
                boolean mayBe = (p.facts[4] == -4 || p.facts[4] == c) && (p.facts[5] == -4 || p.facts[5] == r);
                if (p.column == -4 && mayBe && free(cells, c, r, p.facts[0], p.facts[1])) {
                    p.column = c;
                    p.row = r;
                    for (int y = r; y < r + p.facts[1]; y++) {
                        for (int x = c; x < c + p.facts[0]; x++) {
                            cells[y][x] = i;
                        }
                    }
                }
            }
        }
    }

    private boolean free(int[][] cells, int c, int r, int w, int h) {
        if (c + w > s.tracks.size() || r + h > 12) {
            return false;
        }
        for (int y = r; y < r + h; y++) {
            for (int x = c; x < c + w; x++) {
                if (cells[y][x] != -4) {
                    return false;
                }
            }
        }
        return true;
    }

    private int rowCount() {
        int n = 0;
        for (Piece p : s.pieces) {
            n = p.column == -4 ? n : Math.max(n, p.row + p.facts[1]);
        }
        return n;
    }

    private int lost() {
        int n = 0;
        for (Piece p : s.pieces) {
            n += p.column == -4 ? 1 : 0;
        }
        return n;
    }

    private static int start(int[] sizes, int gap, int t) {
        int all = 0;
        for (int k = 0; k < t; k++) {
            all += sizes[k] + gap;
        }
        return all;
    }

    private static int span(int[] sizes, int gap, int from, int n) {
        int all = 0;
        for (int k = from; k < from + n; k++) {
            all += sizes[k] + (k > from ? gap : 0);
        }
        return all;
    }

    private int[] columnSizes() {
        paint();
        int n = s.tracks.size();
        int[] sizes = new int[n];
        int[] kinds = new int[n];
        for (int c = 0; c < n; c++) {
            kinds[c] = s.tracks.get(c)[0];
            sizes[c] = kinds[c] == 0 ? s.tracks.get(c)[1] : 0;
        }
        for (int wide = 1; wide <= 6; wide++) {
            sizes = grown(sizes, kinds, s.gapX, wide, true);
        }
        if (s.width == null) {
            byNeed(sizes, kinds);
        } else {
            byWidth(sizes, kinds);
        }
        return sizes;
    }

    private int[] rowSizes() {
        paint();
        int[] sizes = new int[rowCount()];
        int[] kinds = new int[rowCount()];
        java.util.Arrays.fill(sizes, s.high);
        java.util.Arrays.fill(kinds, 1);
        for (int tall = 1; tall <= 4; tall++) {
            sizes = grown(sizes, kinds, s.gapY, tall, false);
        }
        return sizes;
    }

    private int[] grown(int[] sizes, int[] kinds, int gap, int span, boolean across) {
        int[] more = new int[sizes.length];
        for (Piece p : s.pieces) {
            int from = across ? p.column : p.row;
            if (p.column == -4 || p.facts[across ? 0 : 1] != span) {
                continue;
            }
            List<Integer> autos = new ArrayList<>();
            boolean flex = false;
            for (int t = from; t < from + span; t++) {
                flex |= kinds[t] == 2;
                if (kinds[t] == 1) {
                    autos.add(t);
                }
            }
            int lack = p.facts[across ? 2 : 3] - span(sizes, gap, from, span);
            // dealt one by one, round and round
            int[] dealt = new int[sizes.length];
            for (int k = 0; !flex && !autos.isEmpty() && k < lack; k++) {
                dealt[autos.get(k % autos.size())]++;
            }
            for (int t = 0; t < more.length; t++) {
                more[t] = Math.max(more[t], dealt[t]);
            }
        }
        int[] after = sizes.clone();
        for (int t = 0; t < after.length; t++) {
            after[t] += more[t];
        }
        return after;
    }

    private void byNeed(int[] sizes, int[] kinds) {
        int share = 0;
        for (boolean enough = false; !enough; share += enough ? 0 : 1) {
            enough = true;
            for (Piece p : s.pieces) {
                if (p.column == -4) {
                    continue;
                }
                int all = 0;
                for (int c = p.column; c < p.column + p.facts[0]; c++) {
                    all += kinds[c] == 2 ? s.tracks.get(c)[1] : 0;
                }
                int lack = p.facts[2] - span(sizes, s.gapX, p.column, p.facts[0]);
                enough &= all == 0 || share * all >= lack;
            }
        }
        for (int c = 0; c < sizes.length; c++) {
            sizes[c] += kinds[c] == 2 ? share * s.tracks.get(c)[1] : 0;
        }
    }

    private void byWidth(int[] sizes, int[] kinds) {
        int left = Math.max(0, s.width - span(sizes, s.gapX, 0, sizes.length));
        List<Integer> open = new ArrayList<>();
        for (int c = 0; c < sizes.length; c++) {
            if (kinds[c] == 2) {
                open.add(c);
            }
        }
        int gone = 0;
        while (true) {
            int rest = Math.max(0, left - gone);
            int all = 0;
            for (int c : open) {
                all += s.tracks.get(c)[1];
            }
            List<Integer> cold = new ArrayList<>();
            for (int c : open) {
                if ((double) least(c) > (double) rest * s.tracks.get(c)[1] / all + 1e-9) {
                    cold.add(c);
                }
            }
            if (cold.isEmpty()) {
                deal(sizes, open, rest, all);
                return;
            }
            for (int c : cold) {
                sizes[c] = least(c);
                gone += least(c);
            }
            open.removeAll(cold);
        }
    }

    private void deal(int[] sizes, List<Integer> open, int rest, int all) {
        int over = rest;
        for (int c : open) {
            sizes[c] = rest * s.tracks.get(c)[1] / all;
            over -= sizes[c];
        }
        for (int k = 0; k < over && k < open.size(); k++) {
            sizes[open.get(k)]++;
        }
    }

    private int least(int c) {
        int most = 0;
        for (Piece p : s.pieces) {
            if (p.column == c && p.facts[0] == 1) {
                most = Math.max(most, p.facts[2]);
            }
        }
        return most;
    }

    int at(int c, int r) {
        int[][] cells = paint();
        if (c < 0 || c >= s.tracks.size() || r < 0 || r >= rowCount()) {
            return -1;
        }
        return cells[r][c];
    }

    int box(int i, int what) {
        if (noPiece(i) || what < 0 || what > 3) {
            return -1;
        }
        paint();
        Piece p = s.pieces.get(i);
        if (p.column == -4) {
            return -2;
        }
        int[] all = {start(columnSizes(), s.gapX, p.column), start(rowSizes(), s.gapY, p.row),
            span(columnSizes(), s.gapX, p.column, p.facts[0]), span(rowSizes(), s.gapY, p.row, p.facts[1])};
        return all[what];
    }

    int over(int i, int what) {
        if (what < 0 || what > 1) {
            return -1;
        }
        int has = box(i, 2 + what);
        return has < 0 ? has : Math.max(0, item(i, 2 + what) - has);
    }

    int total(int what) {
        paint();
        switch (what) {
            case 0:
                return span(columnSizes(), s.gapX, 0, s.tracks.size());
            case 1:
                return span(rowSizes(), s.gapY, 0, rowCount());
            default:
                return -1;
        }
    }

    int empty() {
        int[][] cells = paint();
        int n = 0;
        for (int r = 0; r < rowCount(); r++) {
            for (int c : cells[r]) {
                n += c == -4 ? 1 : 0;
            }
        }
        return n;
    }

    int hole(int w, int h) {
        if (w < 1 || w > s.tracks.size() || h < 1 || h > 4) {
            return -1;
        }
        State was = s;
        s = s.copy();
        Piece p = new Piece();
        p.facts = new int[] {w, h, 0, 0, -4, -4};
        s.pieces.add(p);
        paint();
        s = was;
        return p.column == -4 ? -4 : 100 * p.row + p.column;
    }

    // ---- changes

    private boolean noPiece(int i) {
        return i < 0 || i >= s.pieces.size();
    }

    private boolean inside(Piece p) {
        int[] f = p.facts;
        int n = s.tracks.size();
        return f[0] >= 1 && f[0] <= n && f[1] >= 1 && f[1] <= 4 && f[2] >= 0 && f[2] <= 99 && f[3] >= 0 && f[3] <= 99
            && (f[4] == -4 || f[4] >= 0 && f[4] <= n && f[4] + f[0] <= n) && (f[5] == -4 || f[5] >= 0 && f[5] <= 12 && f[5] + f[1] <= 12);
    }

    int add(int w, int h, int width, int height) {
        Piece p = new Piece();
        p.facts = new int[] {w, h, width, height, -4, -4};
        if (!inside(p)) {
            return -1;
        }
        if (s.pieces.size() == 10) {
            return -3;
        }
        s.pieces.add(p);
        return s.pieces.size();
    }

    int drop(int i) {
        if (noPiece(i)) {
            return -1;
        }
        s.pieces.remove(i);
        return s.pieces.size();
    }

    int pin(int i, int c, int r) {
        if (noPiece(i)) {
            return -1;
        }
        Piece p = s.pieces.get(i).copy();
        p.facts[4] = c;
        p.facts[5] = r;
        if (!inside(p)) {
            return -1;
        }
        s.pieces.set(i, p);
        return 1;
    }

    int set(int i, int what, int v) {
        if (noPiece(i) || what < 0 || what > 3) {
            return -1;
        }
        Piece p = s.pieces.get(i).copy();
        p.facts[what] = v;
        if (!inside(p)) {
            return -1;
        }
        return s.pieces.set(i, p).facts[what];
    }

    int swap(int i, int j) {
        if (noPiece(i) || noPiece(j)) {
            return -1;
        }
        java.util.Collections.swap(s.pieces, i, j);
        return 1;
    }

    int track(int c, int kind, int n) {
        boolean good = kind == 0 && n >= 0 && n <= 99 || kind == 1 && n == 0 || kind == 2 && n >= 1 && n <= 9;
        if (c < 0 || c >= s.tracks.size() || !good) {
            return -1;
        }
        return s.tracks.set(c, new int[] {kind, n})[0];
    }

    int width(int w) {
        if (w != -4 && (w < 0 || w > 999)) {
            return -1;
        }
        int was = s.width == null ? -4 : s.width;
        s.width = w == -4 ? null : (Integer) w;
        return was;
    }

    int gap(int x, int y) {
        if (x < 0 || x > 20 || y < 0 || y > 20) {
            return -1;
        }
        int was = 100 * s.gapX + s.gapY;
        s.gapX = x;
        s.gapY = y;
        return was;
    }

    int high(int v) {
        if (v < 0 || v > 99) {
            return -1;
        }
        int was = s.high;
        s.high = v;
        return was;
    }

    int scatter(int seed, int n) {
        if (n < 1 || n > 10) {
            return -1;
        }
        if (s.tracks.isEmpty()) {
            return -2;
        }
        long now = seed & 0xffffffffL;
        int came = 0;
        for (int k = 0; k < n; k++) {
            now = (now * 1103515245L + 12345L) & 0xffffffffL;
            int got = (int) (now / 65536 % 32768);
            came += add(got % s.tracks.size() + 1, got / 8 % 3 + 1, got / 32 % 50, got / 2048 % 15) > 0 ? 1 : 0;
        }
        return came;
    }

    // ---- images, sheets

    int keep(int k) {
        if (k < 0 || k > 1) {
            return -1;
        }
        int was = images[k] == null ? 0 : 1;
        images[k] = s.copy();
        return was;
    }

    int back(int k) {
        if (k < 0 || k > 1) {
            return -1;
        }
        if (images[k] == null) {
            return -2;
        }
        s = images[k].copy();
        return s.pieces.size();
    }

    int sheet(int k, int lane, int n) {
        if (k < 0 || k > 3 || lane < 0 || lane > 2 || n > 40) {
            return -1;
        }
        try {
            sheets[k] = lane == 0 ? new byte[n] : lane == 1 ? new short[n] : new int[n];
            return 1;
        } catch (NegativeArraySizeException e) {
            return -14;
        }
    }

    int lay(int k, int i, int v) {
        if (k < 0 || k > 3) {
            return -1;
        }
        try {
            if (sheets[k] instanceof byte[] b) {
                b[i] = (byte) v;
            } else if (sheets[k] instanceof short[] h) {
                h[i] = (short) v;
            } else {
                ((int[]) sheets[k])[i] = v;
            }
            return 1;
        } catch (NullPointerException e) {
            return -11;
        } catch (ArrayIndexOutOfBoundsException e) {
            return -12;
        }
    }

    /** Here the machine itself finds the faults. */
    int read(int k, int lane, int f, int n) {
        if (k < 0 || k > 3 || lane < 0 || lane > 2 || n < 0 || n > 10) {
            return -1;
        }
        State was = s.copy();
        int came = 0;
        int found = 0;
        try {
            for (int i = 0; i < n; i++) {
                int[] cells = new int[4];
                for (int j = 0; j < 4; j++) {
                    int at = f + 4 * i + j;
                    cells[j] = lane == 0 ? ((byte[]) sheets[k])[at] : lane == 1 ? ((short[]) sheets[k])[at] : ((int[]) sheets[k])[at];
                }
                if (add(cells[0], cells[1], cells[2], cells[3]) < 0) {
                    s = was;
                    return -20 - i;
                }
                came++;
            }
        } catch (NullPointerException e) {
            found = 1;
        } catch (ArrayIndexOutOfBoundsException e) {
            found = 2;
        } catch (ClassCastException e) {
            found = 3;
        }
        torn = found;
        return came;
    }

    int torn() {
        return torn;
    }

    int count(int what) {
        int pinned = 0;
        int needs = 0;
        int all = 0;
        for (Piece p : s.pieces) {
            pinned += p.facts[4] != -4 || p.facts[5] != -4 ? 1 : 0;
            needs += p.facts[2];
        }
        for (int[] t : s.tracks) {
            all += t[0] == 2 ? t[1] : 0;
        }
        int cells = sheets[0] == null ? -4 : java.lang.reflect.Array.getLength(sheets[0]);
        int[] answers = {(images[0] == null ? 0 : 1) + (images[1] == null ? 0 : 1), pinned, tape.length(), cells, all, needs};
        return what < 0 || what > 5 ? -1 : answers[what];
    }
}
