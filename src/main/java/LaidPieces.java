import java.util.Arrays;

/**
 * Pieces of paper laid over one another on a page: what is seen of each piece, how much of it was
 * asked to be seen, and moves of least change that let pieces be seen as much as asked.
 *
 * <p>No call throws: a call that can't be answered returns one of the error codes and changes
 * nothing.
 */
public final class LaidPieces {
    public static final int INVALID_ARGUMENT = -101;
    public static final int ILLEGAL_STATE = -102;
    public static final int CAPACITY_EXCEEDED = -103;
    public static final int NONE = -109;

    private static final int MAX_PIECES = 12;
    private static final int MIN_SIDE = 4;
    private static final int MAX_SIDE = 24;
    private static final int FIRST_COLUMNS = 16;
    private static final int FIRST_ROWS = 12;
    private static final int MAX_SIZE = 12;
    private static final int MAX_STEP = 60;
    private static final int MAX_COST = 8;
    private static final int MAX_SHIFTS = 12;
    private static final int MAX_TEXT = 120;
    private static final int MAX_CHARACTER = 255;
    private static final int MAX_STATES = 5;
    private static final int TEXT_ERROR = -1000;

    // The properties of a piece are numbered as piece(..) numbers them.
    private static final int X = 0;
    private static final int Y = 1;
    private static final int WIDTH = 2;
    private static final int HEIGHT = 3;
    private static final int SHARE = 4;
    private static final int FRAME = 5;
    private static final int PROPERTIES = 6;
    private static final int[] LOWEST = {-20, -20, 1, 1, 0, 0};
    private static final int[] HIGHEST = {40, 40, 12, 12, 100, 3};

    private static final int PAGE = -1;
    private static final int BORDER = -2;

    private static final int AIM_CONTENT = 0;
    private static final int AIM_NOT_FEWER = 1;
    private static final int AIM_ALL = 2;

    private final Layout now;
    private final Layout draft;
    private final Sight sight;
    private final Parts parts;
    private final Plans plans;
    private final History history;
    private final Text text;
    private final Reader reader;

    /** Creates a page without pieces, with an empty text. */
    public LaidPieces() {
        Layout layout = new Layout();
        Sight view = new Sight(layout);
        Text characters = new Text();
        now = layout;
        draft = new Layout();
        sight = view;
        parts = new Parts(view);
        plans = new Plans(layout);
        history = new History();
        text = characters;
        reader = new Reader(characters);
    }

    // ---- page and pieces

    /** Sets the page; returns the number of pieces that are content then. */
    public int setPage(int columns, int rows) {
        if (!isWithin(columns, MIN_SIDE, MAX_SIDE) || !isWithin(rows, MIN_SIDE, MAX_SIDE)) {
            return INVALID_ARGUMENT;
        }
        history.record(now);
        now.resize(columns, rows);
        sight.look();
        return sight.contentPieces();
    }

    /** Adds a piece without a frame on top of all others; returns its number. */
    public int addPiece(int x, int y, int width, int height, int share) {
        if (!fits(X, x) || !fits(Y, y) || !fits(WIDTH, width) || !fits(HEIGHT, height)
                || !fits(SHARE, share)) {
            return INVALID_ARGUMENT;
        }
        if (now.isFull()) {
            return CAPACITY_EXCEEDED;
        }
        history.record(now);
        int piece = now.addBlank();
        now.set(piece, X, x);
        now.set(piece, Y, y);
        now.set(piece, WIDTH, width);
        now.set(piece, HEIGHT, height);
        now.set(piece, SHARE, share);
        return piece;
    }

    /** Removes a piece; returns the number of pieces then. */
    public int removePiece(int piece) {
        if (!now.has(piece)) {
            return INVALID_ARGUMENT;
        }
        history.record(now);
        now.remove(piece);
        return now.pieces();
    }

    /** Sets the asked share of a piece; returns the previous one. */
    public int setShare(int piece, int share) {
        return setProperty(piece, SHARE, share);
    }

    /** Sets the frame of a piece; returns the previous one. */
    public int setFrame(int piece, int frame) {
        return setProperty(piece, FRAME, frame);
    }

    /** Shifts a piece; returns the cost. */
    public int shift(int piece, int dx, int dy) {
        if (!now.has(piece) || !isWithin(dx, -MAX_STEP, MAX_STEP)
                || !isWithin(dy, -MAX_STEP, MAX_STEP)) {
            return INVALID_ARGUMENT;
        }
        if (!now.canMove(piece, dx, dy)) {
            return ILLEGAL_STATE;
        }
        history.record(now);
        return now.move(piece, dx, dy);
    }

    /** Puts a piece into a layer; returns its previous layer. */
    public int setLayer(int piece, int layer) {
        if (!now.has(piece) || !now.has(layer)) {
            return INVALID_ARGUMENT;
        }
        history.record(now);
        return now.putIntoLayer(piece, layer);
    }

    /** Lets pieces be seen as asked, by shifts; returns the number of shifts that were made. */
    public int arrange() {
        sight.look();
        if (sight.contentPieces() == now.pieces()) {
            return ILLEGAL_STATE;
        }
        history.record(now);
        int shifts = 0;
        while (shifts < MAX_SHIFTS && makeCheapestShift()) {
            shifts++;
        }
        return shifts;
    }

    /** Appends a character to the text; returns the new length of the text. */
    public int append(int character) {
        if (!isWithin(character, 1, MAX_CHARACTER)) {
            return INVALID_ARGUMENT;
        }
        if (text.isFull()) {
            return CAPACITY_EXCEEDED;
        }
        text.add(character);
        return text.length();
    }

    /** Makes the text empty; returns its previous length. */
    public int clearText() {
        int length = text.length();
        text.clear();
        return length;
    }

    /** Reads the text; returns the number of items, or -1000 minus the error position. */
    public int load() {
        // Only a text without an error may change anything: it is read into a draft.
        draft.take(now);
        int items = reader.read(draft);
        if (items >= 0) {
            history.record(now);
            now.take(draft);
            text.clear();
        }
        return items;
    }

    /** Restores the latest state of the history; returns the number of states left in it. */
    public int undo() {
        if (history.size() == 0) {
            return ILLEGAL_STATE;
        }
        history.restore(now);
        return history.size();
    }

    // ---- looking

    /** Returns a number of the whole. */
    public int count(int what) {
        sight.look();
        switch (what) {
            case 0:
                return now.pieces();
            case 1:
                return now.columns();
            case 2:
                return now.rows();
            case 3:
                return sight.contentPieces();
            case 4:
                return sight.unseenPieces();
            case 5:
                return sight.wholeFrames();
            case 6:
                return sight.pageCells();
            case 7:
                return now.cost();
            case 8:
                return history.size();
            case 9:
                return text.length();
            default:
                return INVALID_ARGUMENT;
        }
    }

    /** Returns a property of a piece. */
    public int piece(int piece, int what) {
        if (!now.has(piece)) {
            return INVALID_ARGUMENT;
        }
        if (isWithin(what, 0, PROPERTIES - 1)) {
            return now.get(piece, what);
        }
        sight.look();
        switch (what) {
            case 6:
                return now.layerOf(piece);
            case 7:
                return sight.cells(piece);
            case 8:
                return sight.isContent(piece) ? 1 : 0;
            case 9:
                parts.split(piece);
                return parts.number();
            case 10:
                parts.split(piece);
                return parts.largest();
            case 11:
                return sight.cutStrips(piece);
            case 12:
                return now.cellsOutside(piece);
            default:
                return INVALID_ARGUMENT;
        }
    }

    /** Returns the piece that is seen in a cell, or -1 for the page. */
    public int seen(int column, int row) {
        if (!now.hasCell(column, row)) {
            return INVALID_ARGUMENT;
        }
        int piece = now.coveringPiece(column, row, 0);
        return piece == NONE ? PAGE : piece;
    }

    /** Returns the piece in a layer. */
    public int inLayer(int layer) {
        return now.has(layer) ? now.pieceIn(layer) : INVALID_ARGUMENT;
    }

    /** Returns a piece that covers a cell: index 0 is the uppermost one. */
    public int covering(int column, int row, int index) {
        if (!now.hasCell(column, row) || index < 0) {
            return INVALID_ARGUMENT;
        }
        return now.coveringPiece(column, row, index);
    }

    /** Returns the length of the edge of a piece with another one, the page or the border. */
    public int edge(int piece, int with) {
        boolean known = with == PAGE || with == BORDER || now.has(with);
        if (!now.has(piece) || !known || piece == with) {
            return INVALID_ARGUMENT;
        }
        sight.look();
        return with == BORDER ? sight.borderEdge(piece) : sight.edgeBetween(piece, with);
    }

    /** Returns how many cells of a piece another one hides. */
    public int hides(int piece, int hidden) {
        if (!now.has(piece) || !now.has(hidden) || piece == hidden) {
            return INVALID_ARGUMENT;
        }
        sight.look();
        return sight.hiddenCells(piece, hidden);
    }

    /** Returns a piece by the share that is seen of it. */
    public int byShare(int index) {
        if (index < 0) {
            return INVALID_ARGUMENT;
        }
        sight.look();
        for (int piece = 0; piece < now.pieces(); piece++) {
            if (sight.rankByShare(piece) == index) {
                return piece;
            }
        }
        return NONE;
    }

    // ---- plans, which change nothing

    /** Returns the least shift of a piece for an aim. */
    public int leastShift(int piece, int aim, int what) {
        if (!now.has(piece) || !isWithin(aim, AIM_CONTENT, AIM_ALL) || !isWithin(what, 0, 2)) {
            return INVALID_ARGUMENT;
        }
        if (!plans.findShift(piece, aim, MAX_COST)) {
            return NONE;
        }
        if (what == 0) {
            return plans.cost();
        }
        return what == 1 ? plans.dx() : plans.dy();
    }

    /** Finds the lowest layer with which a piece is content, if it was put there. */
    public int layerFor(int piece) {
        return now.has(piece) ? plans.lowestLayer(piece) : INVALID_ARGUMENT;
    }

    /** Finds the piece without which most of the others would be content. */
    public int worst() {
        return plans.worstPiece();
    }

    // ---- helpers of the calls

    private int setProperty(int piece, int what, int value) {
        if (!now.has(piece) || !fits(what, value)) {
            return INVALID_ARGUMENT;
        }
        history.record(now);
        int previous = now.get(piece, what);
        now.set(piece, what, value);
        return previous;
    }

    /** Makes the cheapest of the least shifts of all pieces that are not content, if any. */
    private boolean makeCheapestShift() {
        sight.look();
        int mover = NONE;
        int dx = 0;
        int dy = 0;
        // A later piece must be cheaper than an earlier one, so its search may end sooner.
        int dearest = MAX_COST;
        for (int piece = 0; piece < now.pieces(); piece++) {
            if (!sight.isContent(piece) && plans.findShift(piece, AIM_NOT_FEWER, dearest)) {
                mover = piece;
                dx = plans.dx();
                dy = plans.dy();
                dearest = plans.cost() - 1;
            }
        }
        if (mover == NONE) {
            return false;
        }
        now.move(mover, dx, dy);
        return true;
    }

    private static boolean isWithin(int value, int lowest, int highest) {
        return value >= lowest && value <= highest;
    }

    /** Tells whether a property of a piece may have the value. */
    private static boolean fits(int what, int value) {
        return isWithin(value, at(LOWEST, what), at(HIGHEST, what));
    }

    /** The value at an index, or 0 where there is none. */
    private static int at(int[] values, int index) {
        return index >= 0 && index < values.length ? values[index] : 0;
    }

    /** Sets the value at an index, if there is one. */
    private static void put(int[] values, int index, int value) {
        if (index >= 0 && index < values.length) {
            values[index] = value;
        }
    }

    /** A state: the page, its pieces, their layers and the cost of all shifts. */
    private static final class Layout {
        private final int[] properties;
        private final int[] order;
        private int columns;
        private int rows;
        private int pieces;
        private int cost;

        Layout() {
            properties = new int[MAX_PIECES * PROPERTIES];
            order = new int[MAX_PIECES];
            columns = FIRST_COLUMNS;
            rows = FIRST_ROWS;
            pieces = 0;
            cost = 0;
        }

        /** Becomes the same as another one. */
        void take(Layout other) {
            System.arraycopy(other.properties, 0, properties, 0, MAX_PIECES * PROPERTIES);
            System.arraycopy(other.order, 0, order, 0, MAX_PIECES);
            columns = other.columns;
            rows = other.rows;
            pieces = other.pieces;
            cost = other.cost;
        }

        int columns() {
            return columns;
        }

        int rows() {
            return rows;
        }

        int pieces() {
            return pieces;
        }

        int cost() {
            return cost;
        }

        boolean isFull() {
            return pieces >= MAX_PIECES;
        }

        /** Tells whether there is a piece with this number, and so also a layer. */
        boolean has(int piece) {
            return piece >= 0 && piece < pieces;
        }

        boolean hasRow(int row) {
            return row >= 0 && row < rows;
        }

        boolean hasCell(int column, int row) {
            return column >= 0 && column < columns && hasRow(row);
        }

        int get(int piece, int what) {
            int index = piece * PROPERTIES + what;
            return index >= 0 && index < properties.length ? properties[index] : 0;
        }

        void set(int piece, int what, int value) {
            put(properties, piece * PROPERTIES + what, value);
        }

        int pieceIn(int layer) {
            return at(order, layer);
        }

        int layerOf(int piece) {
            for (int layer = 0; layer < pieces; layer++) {
                if (at(order, layer) == piece) {
                    return layer;
                }
            }
            return NONE;
        }

        void resize(int newColumns, int newRows) {
            columns = newColumns;
            rows = newRows;
        }

        /** Adds a piece on top of all others, all its properties being 0. */
        int addBlank() {
            int piece = pieces;
            for (int what = 0; what < PROPERTIES; what++) {
                set(piece, what, 0);
            }
            put(order, piece, piece);
            pieces++;
            return piece;
        }

        void remove(int piece) {
            putIntoLayer(piece, pieces - 1);
            pieces--;
            for (int layer = 0; layer < pieces; layer++) {
                int other = at(order, layer);
                put(order, layer, other > piece ? other - 1 : other);
            }
            for (int index = piece * PROPERTIES; index < pieces * PROPERTIES; index++) {
                put(properties, index, at(properties, index + PROPERTIES));
            }
        }

        /** Puts a piece into a layer, and returns its previous one. */
        int putIntoLayer(int piece, int layer) {
            int previous = layerOf(piece);
            for (int i = previous; i < layer; i++) {
                put(order, i, at(order, i + 1));
            }
            for (int i = previous; i > layer; i--) {
                put(order, i, at(order, i - 1));
            }
            put(order, layer, piece);
            return previous;
        }

        boolean canMove(int piece, int dx, int dy) {
            return fits(X, get(piece, X) + dx) && fits(Y, get(piece, Y) + dy);
        }

        /** Shifts a piece, and returns the cost. */
        int move(int piece, int dx, int dy) {
            int added = Math.abs(dx) + Math.abs(dy);
            set(piece, X, get(piece, X) + dx);
            set(piece, Y, get(piece, Y) + dy);
            cost += added;
            return added;
        }

        /** The columns of the page from left on, as many as wide: bit k for column k. */
        int span(int left, int wide) {
            int from = left > 0 ? left : 0;
            int to = left + wide < columns ? left + wide : columns;
            return from < to ? (1 << to) - (1 << from) : 0;
        }

        /** The columns of a row of the page in which a piece covers it. */
        int coverRow(int piece, int row) {
            int line = row - get(piece, Y);
            boolean crosses = hasRow(row) && line >= 0 && line < get(piece, HEIGHT);
            return crosses ? span(get(piece, X), get(piece, WIDTH)) : 0;
        }

        /** The piece that covers a cell, counted from the uppermost one, or NONE. */
        int coveringPiece(int column, int row, int index) {
            int left = index;
            for (int layer = pieces - 1; layer >= 0; layer--) {
                int piece = at(order, layer);
                if (((coverRow(piece, row) >> column) & 1) != 0) {
                    if (left == 0) {
                        return piece;
                    }
                    left--;
                }
            }
            return NONE;
        }

        int area(int piece) {
            return get(piece, WIDTH) * get(piece, HEIGHT);
        }

        int cellsOutside(int piece) {
            int inside = 0;
            for (int row = 0; row < rows; row++) {
                inside += Integer.bitCount(coverRow(piece, row));
            }
            return area(piece) - inside;
        }
    }

    /** What is seen of each piece of a layout, as it was when look() was called last. */
    private static final class Sight {
        private final Layout layout;
        // For each piece and each of its own rows the columns in which it is seen.
        private final int[] seenRows;
        // For each row of the page the columns that pieces cover.
        private final int[] covered;
        private final int[] cells;

        Sight(Layout layout) {
            this.layout = layout;
            seenRows = new int[MAX_PIECES * MAX_SIZE];
            covered = new int[MAX_SIDE];
            cells = new int[MAX_PIECES];
        }

        void look() {
            Arrays.fill(covered, 0);
            for (int layer = layout.pieces() - 1; layer >= 0; layer--) {
                lookAt(layout.pieceIn(layer));
            }
        }

        /** Sees what the pieces above leave of a piece, and covers its cells. */
        private void lookAt(int piece) {
            int top = layout.get(piece, Y);
            int height = layout.get(piece, HEIGHT);
            int columns = layout.span(layout.get(piece, X), layout.get(piece, WIDTH));
            int sum = 0;
            for (int line = 0; line < height; line++) {
                int row = top + line;
                int before = at(covered, row);
                int fresh = layout.hasRow(row) ? columns & ~before : 0;
                put(seenRows, piece * MAX_SIZE + line, fresh);
                put(covered, row, before | fresh);
                sum += Integer.bitCount(fresh);
            }
            put(cells, piece, sum);
        }

        /** The columns of a row of the page in which a piece, or the page, is seen. */
        int rowOf(int piece, int row) {
            if (piece == PAGE) {
                int all = layout.span(0, layout.columns());
                return layout.hasRow(row) ? all & ~at(covered, row) : 0;
            }
            int line = row - layout.get(piece, Y);
            boolean crosses = line >= 0 && line < layout.get(piece, HEIGHT);
            return crosses ? at(seenRows, piece * MAX_SIZE + line) : 0;
        }

        int cells(int piece) {
            return at(cells, piece);
        }

        boolean isContent(int piece) {
            int asked = layout.get(piece, SHARE)
                    * layout.get(piece, WIDTH) * layout.get(piece, HEIGHT);
            return at(cells, piece) * 100 >= asked;
        }

        int contentPieces() {
            int number = 0;
            for (int piece = 0; piece < layout.pieces(); piece++) {
                if (isContent(piece)) {
                    number++;
                }
            }
            return number;
        }

        int unseenPieces() {
            int number = 0;
            for (int piece = 0; piece < layout.pieces(); piece++) {
                if (at(cells, piece) == 0) {
                    number++;
                }
            }
            return number;
        }

        int pageCells() {
            int number = 0;
            for (int row = 0; row < layout.rows(); row++) {
                number += Integer.bitCount(rowOf(PAGE, row));
            }
            return number;
        }

        int wholeFrames() {
            int number = 0;
            for (int piece = 0; piece < layout.pieces(); piece++) {
                if (layout.get(piece, FRAME) > 0 && cutStrips(piece) == 0) {
                    number++;
                }
            }
            return number;
        }

        /** The set of the strips of a piece's frame that are cut: bit k for strip k. */
        int cutStrips(int piece) {
            int x = layout.get(piece, X);
            int y = layout.get(piece, Y);
            int width = layout.get(piece, WIDTH);
            int height = layout.get(piece, HEIGHT);
            int wide = Math.min(layout.get(piece, FRAME), width);
            int high = Math.min(layout.get(piece, FRAME), height);
            int cut = isWholly(piece, x, y, wide, height) ? 0 : 1;
            cut |= isWholly(piece, x, y, width, high) ? 0 : 2;
            cut |= isWholly(piece, x + width - wide, y, wide, height) ? 0 : 4;
            cut |= isWholly(piece, x, y + height - high, width, high) ? 0 : 8;
            return cut;
        }

        /** Tells whether a piece is seen in all cells of a rectangle. */
        private boolean isWholly(int piece, int left, int top, int wide, int high) {
            int columns = layout.span(left, wide);
            int number = 0;
            for (int row = top; row < top + high; row++) {
                number += Integer.bitCount(rowOf(piece, row) & columns);
            }
            return number == wide * high;
        }

        /** The length of the edge between a piece and another one or the page. */
        int edgeBetween(int piece, int with) {
            int length = 0;
            for (int row = 0; row < layout.rows(); row++) {
                int own = rowOf(piece, row);
                int beside = rowOf(with, row);
                length += Integer.bitCount(own & (beside << 1));
                length += Integer.bitCount(own & (beside >> 1));
                length += Integer.bitCount(own & rowOf(with, row - 1));
                length += Integer.bitCount(own & rowOf(with, row + 1));
            }
            return length;
        }

        int borderEdge(int piece) {
            int sides = 1 | (1 << (layout.columns() - 1));
            int length = Integer.bitCount(rowOf(piece, 0))
                    + Integer.bitCount(rowOf(piece, layout.rows() - 1));
            for (int row = 0; row < layout.rows(); row++) {
                length += Integer.bitCount(rowOf(piece, row) & sides);
            }
            return length;
        }

        /** How many cells of a piece another one hides. */
        int hiddenCells(int piece, int hidden) {
            int number = 0;
            for (int row = 0; row < layout.rows(); row++) {
                number += Integer.bitCount(rowOf(piece, row) & layout.coverRow(hidden, row));
            }
            return number;
        }

        /** How many pieces come ahead of a piece by the share that is seen of them. */
        int rankByShare(int piece) {
            int share = shareOf(piece);
            int layer = layout.layerOf(piece);
            int rank = 0;
            for (int other = 0; other < layout.pieces(); other++) {
                int difference = shareOf(other) - share;
                if (difference < 0 || (difference == 0 && layout.layerOf(other) < layer)) {
                    rank++;
                }
            }
            return rank;
        }

        private int shareOf(int piece) {
            int area = layout.area(piece);
            return area > 0 ? at(cells, piece) * 100 / area : 0;
        }
    }

    /** The parts of the seen part of a piece. */
    private static final class Parts {
        private final Sight sight;
        // Bit k of a row for column k: what no part has yet, and the part that grows.
        private final int[] rest;
        private final int[] part;
        private int number;
        private int largest;

        Parts(Sight sight) {
            this.sight = sight;
            rest = new int[MAX_SIDE];
            part = new int[MAX_SIDE];
            number = 0;
            largest = 0;
        }

        int number() {
            return number;
        }

        int largest() {
            return largest;
        }

        void split(int piece) {
            number = 0;
            largest = 0;
            for (int row = 0; row < MAX_SIDE; row++) {
                put(rest, row, sight.rowOf(piece, row));
            }
            for (int row = 0; row < MAX_SIDE; row++) {
                // Each part takes a column of this row at least.
                for (int i = 0; i < MAX_SIDE && at(rest, row) != 0; i++) {
                    number++;
                    largest = Math.max(largest, takePart(row));
                }
            }
        }

        /** Takes a part that has a cell in the row, and returns the number of its cells. */
        private int takePart(int row) {
            Arrays.fill(part, 0);
            put(part, row, at(rest, row) & -at(rest, row));
            boolean grown = true;
            for (int i = 0; i < MAX_SIDE * MAX_SIDE && grown; i++) {
                grown = grow();
            }
            int cells = 0;
            for (int i = 0; i < MAX_SIDE; i++) {
                cells += Integer.bitCount(at(part, i));
                put(rest, i, at(rest, i) & ~at(part, i));
            }
            return cells;
        }

        /** Adds cells that have a side in common with the part; false if there are none. */
        private boolean grow() {
            boolean grown = false;
            for (int row = 0; row < MAX_SIDE; row++) {
                int own = at(part, row);
                int reached = own | (own << 1) | (own >> 1) | at(part, row - 1) | at(part, row + 1);
                int next = reached & at(rest, row);
                if (next != own) {
                    put(part, row, next);
                    grown = true;
                }
            }
            return grown;
        }
    }

    /** Tries changes on a copy of a layout, which itself stays as it is. */
    private static final class Plans {
        private final Layout now;
        private final Layout trial;
        private final Sight sight;
        private int dx;
        private int dy;

        Plans(Layout now) {
            Layout copy = new Layout();
            this.now = now;
            trial = copy;
            sight = new Sight(copy);
            dx = 0;
            dy = 0;
        }

        int dx() {
            return dx;
        }

        int dy() {
            return dy;
        }

        int cost() {
            return Math.abs(dx) + Math.abs(dy);
        }

        /** Finds the least shift for an aim, if there is one that costs at most the dearest. */
        boolean findShift(int piece, int aim, int dearest) {
            trial.take(now);
            int needed = contentPiecesNeeded(aim);
            for (int cost = 0; cost <= dearest; cost++) {
                for (int across = -cost; across <= cost; across++) {
                    int down = cost - Math.abs(across);
                    if (reaches(piece, across, -down, needed)
                            || down > 0 && reaches(piece, across, down, needed)) {
                        return true;
                    }
                }
            }
            return false;
        }

        /** How many pieces must be content with an aim, the piece that is shifted being one. */
        private int contentPiecesNeeded(int aim) {
            if (aim == AIM_NOT_FEWER) {
                sight.look();
                return sight.contentPieces();
            }
            return aim == AIM_ALL ? now.pieces() : 0;
        }

        /** Tries a shift; tells whether it is possible and enough pieces are content with it. */
        private boolean reaches(int piece, int across, int down, int needed) {
            if (!now.canMove(piece, across, down)) {
                return false;
            }
            dx = across;
            dy = down;
            trial.set(piece, X, now.get(piece, X) + across);
            trial.set(piece, Y, now.get(piece, Y) + down);
            sight.look();
            return sight.isContent(piece) && sight.contentPieces() >= needed;
        }

        int lowestLayer(int piece) {
            trial.take(now);
            for (int layer = 0; layer < now.pieces(); layer++) {
                trial.putIntoLayer(piece, layer);
                sight.look();
                if (sight.isContent(piece)) {
                    return layer;
                }
            }
            return NONE;
        }

        int worstPiece() {
            int worst = NONE;
            int most = -1;
            for (int piece = 0; piece < now.pieces(); piece++) {
                trial.take(now);
                trial.remove(piece);
                sight.look();
                int content = sight.contentPieces();
                if (content > most) {
                    most = content;
                    worst = piece;
                }
            }
            return worst;
        }
    }

    /** The latest states, as many as are kept: a ring whose oldest one is at first. */
    private static final class History {
        private final Layout[] states;
        private int first;
        private int size;

        History() {
            states = new Layout[MAX_STATES];
            for (int i = 0; i < states.length; i++) {
                states[i] = new Layout();
            }
            first = 0;
            size = 0;
        }

        int size() {
            return size;
        }

        void record(Layout layout) {
            if (size == MAX_STATES) {
                first = (first + 1) % MAX_STATES;
                size--;
            }
            Layout state = stateAt(size);
            if (state != null) {
                state.take(layout);
                size++;
            }
        }

        void restore(Layout layout) {
            Layout state = stateAt(size - 1);
            if (state != null) {
                layout.take(state);
                size--;
            }
        }

        private Layout stateAt(int age) {
            int index = (first + age) % MAX_STATES;
            return index >= 0 && index < states.length ? states[index] : null;
        }
    }

    /** The text, as the codes of its characters. */
    private static final class Text {
        private final int[] characters;
        private int length;

        Text() {
            characters = new int[MAX_TEXT];
            length = 0;
        }

        int length() {
            return length;
        }

        boolean isFull() {
            return length >= MAX_TEXT;
        }

        void add(int character) {
            put(characters, length, character);
            length++;
        }

        void clear() {
            length = 0;
        }

        /** The code of a character, or 0 behind the last one. */
        int characterAt(int offset) {
            boolean known = offset >= 0 && offset < length && offset < characters.length;
            return known ? characters[offset] : 0;
        }
    }

    /** Reads the text, token by token. */
    private static final class Reader {
        private static final int END = 0;
        private static final int WORD = 1;
        private static final int NUMBER = 2;
        private static final int SEMICOLON = 3;
        private static final int NOTHING_ALLOWED = 4;
        // Above every range, and small enough to take one digit more.
        private static final int LARGE = 1000;

        private final Text text;
        // The latest token: its kind, its value if it is a number, and where it stands.
        private int kind;
        private int value;
        private int start;
        private int end;

        Reader(Text text) {
            this.text = text;
            kind = END;
            value = 0;
            start = 0;
            end = 0;
        }

        /** Carries the items out; returns their number, or -1000 minus the error position. */
        int read(Layout layout) {
            end = 0;
            int items = 0;
            nextToken();
            // No item is shorter than a character, so the text's room bounds their number.
            while (kind != END && items < MAX_TEXT) {
                boolean allowed = isWord("page") ? items == 0 && readPage(layout)
                        : isWord("piece") && !layout.isFull() && readPiece(layout);
                if (!allowed) {
                    return TEXT_ERROR - start;
                }
                items++;
                nextToken();
            }
            return items;
        }

        private boolean readPage(Layout layout) {
            if (!isNextNumber(MIN_SIDE, MAX_SIDE)) {
                return false;
            }
            int columns = value;
            if (!isNextNumber(MIN_SIDE, MAX_SIDE)) {
                return false;
            }
            layout.resize(columns, value);
            nextToken();
            return kind == SEMICOLON;
        }

        private boolean readPiece(Layout layout) {
            int piece = layout.addBlank();
            for (int what = X; what <= SHARE; what++) {
                if (!isNextNumber(at(LOWEST, what), at(HIGHEST, what))) {
                    return false;
                }
                layout.set(piece, what, value);
            }
            nextToken();
            if (isWord("frame")) {
                if (!isNextNumber(at(LOWEST, FRAME), at(HIGHEST, FRAME))) {
                    return false;
                }
                layout.set(piece, FRAME, value);
                nextToken();
            }
            return kind == SEMICOLON;
        }

        private boolean isNextNumber(int lowest, int highest) {
            nextToken();
            return kind == NUMBER && isWithin(value, lowest, highest);
        }

        private boolean isWord(String word) {
            if (kind != WORD || end - start != word.length()) {
                return false;
            }
            for (int i = 0; i < word.length(); i++) {
                if (text.characterAt(start + i) != word.charAt(i)) {
                    return false;
                }
            }
            return true;
        }

        private void nextToken() {
            start = end;
            while (start < text.length() && text.characterAt(start) == ' ') {
                start++;
            }
            end = start;
            int character = text.characterAt(start);
            if (start >= text.length()) {
                kind = END;
            } else if (isWithin(character, 'a', 'z')) {
                takeWord();
            } else if (character == '-' || isWithin(character, '0', '9')) {
                takeNumber();
            } else {
                kind = character == ';' ? SEMICOLON : NOTHING_ALLOWED;
                end = start + 1;
            }
        }

        private void takeWord() {
            kind = WORD;
            while (end < text.length() && isWithin(text.characterAt(end), 'a', 'z')) {
                end++;
            }
        }

        private void takeNumber() {
            boolean negative = text.characterAt(start) == '-';
            int first = negative ? start + 1 : start;
            end = first;
            value = 0;
            while (end < text.length() && isWithin(text.characterAt(end), '0', '9')) {
                value = Math.min(value * 10 + text.characterAt(end) - '0', LARGE);
                end++;
            }
            boolean zeroAhead = end - first > 1 && text.characterAt(first) == '0';
            kind = end > first && !zeroAhead ? NUMBER : NOTHING_ALLOWED;
            value = negative ? -value : value;
        }
    }
}
