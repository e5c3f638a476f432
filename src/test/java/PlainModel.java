import java.util.ArrayDeque;
import java.util.ArrayList;
import java.util.Deque;
import java.util.HashSet;
import java.util.List;
import java.util.Set;
import java.util.regex.Matcher;
import java.util.regex.Pattern;

/**
 * The document once more, in its slowest and plainest form: every question is answered cell by
 * cell from the rectangles. The tests compare LaidPieces with it.
 */
final class PlainModel {
    private static final int INVALID = -101;
    private static final int STATE = -102;
    private static final int FULL = -103;
    private static final int NONE = -109;
    private static final Pattern TOKEN = Pattern.compile("[a-z]+|-?[0-9]+|.", Pattern.DOTALL);

    /** A rectangle with its wishes; one list holds them by number, another by layer. */
    private static final class Sheet {
        int x;
        int y;
        int w;
        int h;
        int share;
        int frame;

        boolean covers(int c, int r) {
            return c >= x && c < x + w && r >= y && r < y + h;
        }
    }

    /** All that undo() restores. */
    private static final class State {
        int columns = 16;
        int rows = 12;
        long cost = 0;
        List<Sheet> byNumber = new ArrayList<>();
        List<Sheet> byLayer = new ArrayList<>();

        State copy() {
            State s = new State();
            s.columns = columns;
            s.rows = rows;
            s.cost = cost;
            for (Sheet sheet : byNumber) {
                Sheet t = new Sheet();
                t.x = sheet.x;
                t.y = sheet.y;
                t.w = sheet.w;
                t.h = sheet.h;
                t.share = sheet.share;
                t.frame = sheet.frame;
                s.byNumber.add(t);
            }
            for (Sheet sheet : byLayer) {
                s.byLayer.add(s.byNumber.get(byNumber.indexOf(sheet)));
            }
            return s;
        }

        /** For each cell the piece that is seen there, or -1. */
        int[][] picture() {
            int[][] cells = new int[columns][rows];
            for (int[] column : cells) {
                java.util.Arrays.fill(column, -1);
            }
            for (Sheet sheet : byLayer) {
                int number = byNumber.indexOf(sheet);
                for (int c = sheet.x; c < sheet.x + sheet.w; c++) {
                    for (int r = sheet.y; r < sheet.y + sheet.h; r++) {
                        if (c >= 0 && c < columns && r >= 0 && r < rows) {
                            cells[c][r] = number;
                        }
                    }
                }
            }
            return cells;
        }

        int[] amounts() {
            int[] amounts = new int[byNumber.size()];
            for (int[] column : picture()) {
                for (int number : column) {
                    if (number >= 0) {
                        amounts[number]++;
                    }
                }
            }
            return amounts;
        }

        boolean[] content() {
            int[] amounts = amounts();
            boolean[] content = new boolean[amounts.length];
            for (int i = 0; i < content.length; i++) {
                Sheet s = byNumber.get(i);
                content[i] = amounts[i] * 100 >= s.share * s.w * s.h;
            }
            return content;
        }

        int contentNumber() {
            int number = 0;
            for (boolean c : content()) {
                number += c ? 1 : 0;
            }
            return number;
        }
    }

    private State now = new State();
    private final Deque<State> history = new ArrayDeque<>();
    private String text = "";

    private static boolean in(int value, int low, int high) {
        return low <= value && value <= high;
    }

    private boolean is(int piece) {
        return in(piece, 0, now.byNumber.size() - 1);
    }

    private void action() {
        history.addLast(now.copy());
        if (history.size() > 5) {
            history.removeFirst();
        }
    }

    int setPage(int columns, int rows) {
        if (!in(columns, 4, 24) || !in(rows, 4, 24)) {
            return INVALID;
        }
        action();
        now.columns = columns;
        now.rows = rows;
        return now.contentNumber();
    }

    int addPiece(int x, int y, int width, int height, int share) {
        if (!in(x, -20, 40) || !in(y, -20, 40) || !in(width, 1, 12) || !in(height, 1, 12)
                || !in(share, 0, 100)) {
            return INVALID;
        }
        if (now.byNumber.size() == 12) {
            return FULL;
        }
        action();
        add(now, new int[] {x, y, width, height, share, 0});
        return now.byNumber.size() - 1;
    }

    private static void add(State state, int[] values) {
        Sheet s = new Sheet();
        s.x = values[0];
        s.y = values[1];
        s.w = values[2];
        s.h = values[3];
        s.share = values[4];
        s.frame = values[5];
        state.byNumber.add(s);
        state.byLayer.add(s);
    }

    int removePiece(int piece) {
        if (!is(piece)) {
            return INVALID;
        }
        action();
        now.byLayer.remove(now.byNumber.remove(piece));
        return now.byNumber.size();
    }

    int setShare(int piece, int share) {
        if (!is(piece) || !in(share, 0, 100)) {
            return INVALID;
        }
        action();
        int old = now.byNumber.get(piece).share;
        now.byNumber.get(piece).share = share;
        return old;
    }

    int setFrame(int piece, int frame) {
        if (!is(piece) || !in(frame, 0, 3)) {
            return INVALID;
        }
        action();
        int old = now.byNumber.get(piece).frame;
        now.byNumber.get(piece).frame = frame;
        return old;
    }

    int shift(int piece, int dx, int dy) {
        if (!is(piece) || !in(dx, -60, 60) || !in(dy, -60, 60)) {
            return INVALID;
        }
        if (!possible(now.byNumber.get(piece), dx, dy)) {
            return STATE;
        }
        action();
        move(now, piece, dx, dy);
        now.cost += Math.abs(dx) + Math.abs(dy);
        return Math.abs(dx) + Math.abs(dy);
    }

    private static boolean possible(Sheet s, int dx, int dy) {
        return in(s.x + dx, -20, 40) && in(s.y + dy, -20, 40);
    }

    private static void move(State state, int piece, int dx, int dy) {
        state.byNumber.get(piece).x += dx;
        state.byNumber.get(piece).y += dy;
    }

    int setLayer(int piece, int layer) {
        if (!is(piece) || !is(layer)) {
            return INVALID;
        }
        action();
        return layer(now, piece, layer);
    }

    private static int layer(State state, int piece, int layer) {
        Sheet s = state.byNumber.get(piece);
        int old = state.byLayer.indexOf(s);
        state.byLayer.remove(old);
        state.byLayer.add(layer, s);
        return old;
    }

    int arrange() {
        if (now.contentNumber() == now.byNumber.size()) {
            return STATE;
        }
        action();
        int made = 0;
        while (made < 12 && now.contentNumber() < now.byNumber.size()) {
            boolean[] content = now.content();
            int mover = -1;
            int[] best = null;
            for (int i = 0; i < content.length; i++) {
                int[] least = content[i] ? null : least(i, 1);
                if (least != null && (best == null || least[0] < best[0])) {
                    mover = i;
                    best = least;
                }
            }
            if (best == null) {
                return made;
            }
            move(now, mover, best[1], best[2]);
            now.cost += best[0];
            made++;
        }
        return made;
    }

    int append(int character) {
        if (!in(character, 1, 255)) {
            return INVALID;
        }
        if (text.length() == 120) {
            return FULL;
        }
        text += (char) character;
        return text.length();
    }

    int clearText() {
        int length = text.length();
        text = "";
        return length;
    }

    /** A place in the text that is not allowed. */
    private static final class Fault extends RuntimeException {
        private static final long serialVersionUID = 1L;
        final int position;

        Fault(int position) {
            this.position = position;
        }
    }

    int load() {
        List<String> tokens = new ArrayList<>();
        List<Integer> starts = new ArrayList<>();
        Matcher m = TOKEN.matcher(text);
        while (m.find()) {
            if (!m.group().equals(" ")) {
                tokens.add(m.group());
                starts.add(m.start());
            }
        }
        tokens.add("");
        starts.add(text.length());
        State read = now.copy();
        int items = 0;
        try {
            int at = 0;
            while (!tokens.get(at).isEmpty()) {
                at = item(read, tokens, starts, at);
                items++;
            }
        } catch (Fault f) {
            return -1000 - f.position;
        }
        action();
        now = read;
        text = "";
        return items;
    }

    private static int item(State read, List<String> tokens, List<Integer> starts, int first) {
        int at = first;
        if (at == 0 && tokens.get(at).equals("page")) {
            int columns = number(tokens, starts, at + 1, 4, 24);
            int rows = number(tokens, starts, at + 2, 4, 24);
            semicolon(tokens, starts, at + 3);
            read.columns = columns;
            read.rows = rows;
            return at + 4;
        }
        if (!tokens.get(at).equals("piece") || read.byNumber.size() == 12) {
            throw new Fault(starts.get(at));
        }
        int[][] ranges = {{-20, 40}, {-20, 40}, {1, 12}, {1, 12}, {0, 100}};
        int[] values = new int[6];
        for (int[] range : ranges) {
            values[at - first] = number(tokens, starts, at + 1, range[0], range[1]);
            at++;
        }
        at++;
        if (tokens.get(at).equals("frame")) {
            values[5] = number(tokens, starts, at + 1, 0, 3);
            at += 2;
        }
        semicolon(tokens, starts, at);
        add(read, values);
        return at + 1;
    }

    private static int number(List<String> tokens, List<Integer> starts, int at, int low,
            int high) {
        String token = tokens.get(at);
        if (!token.matches("-?(0|[1-9][0-9]*)") || token.length() > 6
                || !in(Integer.parseInt(token), low, high)) {
            throw new Fault(starts.get(at));
        }
        return Integer.parseInt(token);
    }

    private static void semicolon(List<String> tokens, List<Integer> starts, int at) {
        if (!tokens.get(at).equals(";")) {
            throw new Fault(starts.get(at));
        }
    }

    int undo() {
        if (history.isEmpty()) {
            return STATE;
        }
        now = history.removeLast();
        return history.size();
    }

    int count(int what) {
        if (!in(what, 0, 9)) {
            return INVALID;
        }
        int unseen = 0;
        int whole = 0;
        int page = now.columns * now.rows;
        int[] amounts = now.amounts();
        for (int i = 0; i < amounts.length; i++) {
            unseen += amounts[i] == 0 ? 1 : 0;
            whole += now.byNumber.get(i).frame > 0 && cut(i) == 0 ? 1 : 0;
            page -= amounts[i];
        }
        int[] all = {amounts.length, now.columns, now.rows, now.contentNumber(), unseen, whole,
            page, (int) now.cost, history.size(), text.length()};
        return all[what];
    }

    int piece(int piece, int what) {
        if (!is(piece) || !in(what, 0, 12)) {
            return INVALID;
        }
        Sheet s = now.byNumber.get(piece);
        int outside = 0;
        for (int c = s.x; c < s.x + s.w; c++) {
            for (int r = s.y; r < s.y + s.h; r++) {
                outside += in(c, 0, now.columns - 1) && in(r, 0, now.rows - 1) ? 0 : 1;
            }
        }
        int[] parts = parts(piece);
        int[] all = {s.x, s.y, s.w, s.h, s.share, s.frame, now.byLayer.indexOf(s),
            now.amounts()[piece], now.content()[piece] ? 1 : 0, parts[0], parts[1], cut(piece),
            outside};
        return all[what];
    }

    /** The number of the parts, and the cells of the largest one. */
    private int[] parts(int piece) {
        int[][] picture = now.picture();
        int[] answer = new int[2];
        Set<Integer> done = new HashSet<>();
        for (int c = 0; c < now.columns; c++) {
            for (int r = 0; r < now.rows; r++) {
                if (picture[c][r] == piece && !done.contains(c * 100 + r)) {
                    int before = done.size();
                    fill(picture, piece, c, r, done);
                    answer[0]++;
                    answer[1] = Math.max(answer[1], done.size() - before);
                }
            }
        }
        return answer;
    }

    private static void fill(int[][] picture, int piece, int c, int r, Set<Integer> done) {
        if (c < 0 || r < 0 || c >= picture.length || r >= picture[0].length
                || picture[c][r] != piece || !done.add(c * 100 + r)) {
            return;
        }
        fill(picture, piece, c + 1, r, done);
        fill(picture, piece, c - 1, r, done);
        fill(picture, piece, c, r + 1, done);
        fill(picture, piece, c, r - 1, done);
    }

    private int cut(int piece) {
        Sheet s = now.byNumber.get(piece);
        int[][] picture = now.picture();
        int set = 0;
        for (int i = 0; i < s.w; i++) {
            for (int j = 0; j < s.h; j++) {
                int c = s.x + i;
                int r = s.y + j;
                boolean visible = in(c, 0, now.columns - 1) && in(r, 0, now.rows - 1)
                        && picture[c][r] == piece;
                if (!visible) {
                    set |= i < s.frame ? 1 : 0;
                    set |= j < s.frame ? 2 : 0;
                    set |= s.w - 1 - i < s.frame ? 4 : 0;
                    set |= s.h - 1 - j < s.frame ? 8 : 0;
                }
            }
        }
        return set;
    }

    int seen(int column, int row) {
        if (!in(column, 0, now.columns - 1) || !in(row, 0, now.rows - 1)) {
            return INVALID;
        }
        return now.picture()[column][row];
    }

    int inLayer(int layer) {
        return is(layer) ? now.byNumber.indexOf(now.byLayer.get(layer)) : INVALID;
    }

    int covering(int column, int row, int index) {
        if (!in(column, 0, now.columns - 1) || !in(row, 0, now.rows - 1) || index < 0) {
            return INVALID;
        }
        List<Integer> found = new ArrayList<>();
        for (Sheet s : now.byLayer) {
            if (s.covers(column, row)) {
                found.add(0, now.byNumber.indexOf(s));
            }
        }
        return index < found.size() ? found.get(index) : NONE;
    }

    int edge(int piece, int with) {
        if (!is(piece) || piece == with || with < -2 || with >= now.byNumber.size()) {
            return INVALID;
        }
        int[][] picture = now.picture();
        int[][] sides = {{1, 0}, {-1, 0}, {0, 1}, {0, -1}};
        int length = 0;
        for (int c = 0; c < now.columns; c++) {
            for (int r = 0; r < now.rows; r++) {
                for (int[] side : sides) {
                    int c2 = c + side[0];
                    int r2 = r + side[1];
                    boolean inside = in(c2, 0, now.columns - 1) && in(r2, 0, now.rows - 1);
                    int beyond = inside ? picture[c2][r2] : -2;
                    length += picture[c][r] == piece && beyond == with ? 1 : 0;
                }
            }
        }
        return length;
    }

    int hides(int piece, int hidden) {
        if (!is(piece) || !is(hidden) || piece == hidden) {
            return INVALID;
        }
        int[][] picture = now.picture();
        int number = 0;
        for (int c = 0; c < now.columns; c++) {
            for (int r = 0; r < now.rows; r++) {
                boolean both = picture[c][r] == piece && now.byNumber.get(hidden).covers(c, r);
                number += both ? 1 : 0;
            }
        }
        return number;
    }

    int byShare(int index) {
        if (index < 0) {
            return INVALID;
        }
        int[] amounts = now.amounts();
        List<Sheet> sorted = new ArrayList<>(now.byLayer);
        // The sort is stable, so lower layers stay ahead.
        sorted.sort(java.util.Comparator.comparingInt(
                s -> amounts[now.byNumber.indexOf(s)] * 100 / (s.w * s.h)));
        return index < sorted.size() ? now.byNumber.indexOf(sorted.get(index)) : NONE;
    }

    int leastShift(int piece, int aim, int what) {
        if (!is(piece) || !in(aim, 0, 2) || !in(what, 0, 2)) {
            return INVALID;
        }
        int[] least = least(piece, aim);
        return least == null ? NONE : least[what];
    }

    /** Cost, dx and dy of the least shift, or null: all shifts are sorted and tried. */
    private int[] least(int piece, int aim) {
        List<int[]> shifts = new ArrayList<>();
        for (int dx = -8; dx <= 8; dx++) {
            for (int dy = -8; dy <= 8; dy++) {
                int cost = Math.abs(dx) + Math.abs(dy);
                if (cost <= 8 && possible(now.byNumber.get(piece), dx, dy)) {
                    shifts.add(new int[] {cost, dx, dy});
                }
            }
        }
        shifts.sort(java.util.Comparator.<int[]>comparingInt(s -> s[0])
                .thenComparingInt(s -> s[1]).thenComparingInt(s -> s[2]));
        int before = now.contentNumber();
        for (int[] s : shifts) {
            State trial = now.copy();
            move(trial, piece, s[1], s[2]);
            boolean reached = trial.content()[piece];
            if (aim == 1) {
                reached &= trial.contentNumber() >= before;
            }
            if (aim == 2) {
                reached = trial.contentNumber() == trial.byNumber.size();
            }
            if (reached) {
                return s;
            }
        }
        return null;
    }

    int layerFor(int piece) {
        if (!is(piece)) {
            return INVALID;
        }
        for (int layer = 0; layer < now.byNumber.size(); layer++) {
            State trial = now.copy();
            layer(trial, piece, layer);
            if (trial.content()[piece]) {
                return layer;
            }
        }
        return NONE;
    }

    int worst() {
        int worst = NONE;
        int most = -1;
        for (int i = 0; i < now.byNumber.size(); i++) {
            State trial = now.copy();
            trial.byLayer.remove(trial.byNumber.remove(i));
            if (trial.contentNumber() > most) {
                most = trial.contentNumber();
                worst = i;
            }
        }
        return worst;
    }
}
