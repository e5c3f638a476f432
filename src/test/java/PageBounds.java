/** The sentences of the document on the page, its pieces and their moves: promises 1 to 9. */
final class PageBounds {
    private static final String PAGE = "Page and pieces";
    private static final String MOVES = "Moves";

    private PageBounds() {
    }

    static void run() {
        emptyPage();
        columnsAndRows();
        twelvePieces();
        rectangles();
        layers();
        shifts();
        setPage();
        addPiece();
        removePiece();
        setShare();
        setFrame();
        shift();
        setLayer();
        arrange();
        arrangeAtMostTwelve();
    }

    /** Pieces of one cell, side by side in row 0; all are content. */
    static Played inARow(int number) {
        Played p = new Played();
        for (int i = 0; i < number; i++) {
            Checks.rows(p, "addPiece(" + i + ", 0, 1, 1, 50) = " + i);
        }
        return p;
    }

    private static void emptyPage() {
        Doc.says("Promise 1", "Creates a page without pieces, with an empty text.");
        Checks.still(new Played(), "count(0) = 0", "count(1) = 16", "count(2) = 12", "count(3) = 0",
                "count(4) = 0", "count(5) = 0", "count(6) = 192", "count(7) = 0", "count(8) = 0",
                "count(9) = 0", "seen(0, 0) = -1", "seen(15, 11) = -1", "covering(0, 0, 0) = NONE",
                "byShare(0) = NONE", "worst() = NONE", "clearText() = 0");
        // There is no piece and no layer that a call could name.
        Checks.still(new Played(), "removePiece(0) = INVALID_ARGUMENT",
                "setShare(0, 0) = INVALID_ARGUMENT", "setFrame(0, 0) = INVALID_ARGUMENT",
                "shift(0, 0, 0) = INVALID_ARGUMENT", "setLayer(0, 0) = INVALID_ARGUMENT",
                "piece(0, 0) = INVALID_ARGUMENT", "piece(0, 12) = INVALID_ARGUMENT",
                "inLayer(0) = INVALID_ARGUMENT", "edge(0, -1) = INVALID_ARGUMENT",
                "edge(0, -2) = INVALID_ARGUMENT", "hides(0, 1) = INVALID_ARGUMENT",
                "leastShift(0, 0, 0) = INVALID_ARGUMENT", "layerFor(0) = INVALID_ARGUMENT",
                "arrange() = ILLEGAL_STATE", "undo() = ILLEGAL_STATE");
    }

    private static void columnsAndRows() {
        Doc.says(PAGE, "The page has W columns and H rows of cells, 4 to 24 each");
        Checks.rows(new Played(), "count(1) = 16", "count(2) = 12", "seen(0, 0) = -1",
                "seen(15, 11) = -1", "seen(16, 11) = INVALID_ARGUMENT",
                "seen(15, 12) = INVALID_ARGUMENT");
        Played p = new Played();
        Checks.range(p, "setPage(%, 12)", 4, 0, 24, 0);
        Checks.range(p, "setPage(16, %)", 4, 0, 24, 0);
        // Row 0 is above: a piece that lies above of it has a strip 1 that is cut, not a strip 3.
        Checks.rows(p, "addPiece(5, -1, 3, 3, 0) = 0", "setFrame(0, 1) = 0", "piece(0, 11) = 7",
                "shift(0, 0, 11) = 11", "piece(0, 11) = 13", "shift(0, -6, -5) = 11",
                "piece(0, 11) = 11", "shift(0, 15, 0) = 15", "piece(0, 11) = 14");
    }

    private static void twelvePieces() {
        Doc.says(PAGE, "There are at most 12 pieces, numbered from 0");
        Played p = inARow(12);
        Checks.still(p, "count(0) = 12", "addPiece(0, 0, 1, 1, 0) = CAPACITY_EXCEEDED");
        Checks.rows(p, "removePiece(5) = 11", "piece(4, 0) = 4", "piece(5, 0) = 6",
                "piece(10, 0) = 11", "piece(11, 0) = INVALID_ARGUMENT",
                "addPiece(15, 0, 1, 1, 0) = 11", "piece(11, 0) = 15",
                "removePiece(0) = 11", "piece(0, 0) = 1", "piece(10, 0) = 15",
                "removePiece(10) = 10", "piece(9, 0) = 11", "addPiece(3, 3, 1, 1, 0) = 10");
        // Twelve of the largest ones, each as high as it can be.
        Played large = new Played();
        Checks.rows(large, "setPage(24, 24) = 0");
        for (int i = 0; i < 12; i++) {
            Checks.rows(large, "addPiece(" + i + ", " + i + ", 12, 12, 100) = " + i);
        }
        for (int i = 0; i < 12; i++) {
            Checks.rows(large, "piece(" + i + ", 7) = " + (i < 11 ? 23 : 144),
                    "piece(" + i + ", 10) = " + (i < 11 ? 23 : 144), "seen(" + i + ", " + i + ") = "
                    + i, "seen(" + i + ", " + (i + 11) + ") = " + i);
        }
    }

    private static void rectangles() {
        Doc.says(PAGE, "A piece is a rectangle of cells: it has a left column X");
        Played p = new Played();
        Checks.rows(p, "addPiece(-20, 40, 1, 12, 0) = 0", "addPiece(40, -20, 12, 1, 100) = 1",
                "setFrame(1, 3) = 0", "piece(0, 0) = -20", "piece(0, 1) = 40", "piece(0, 2) = 1",
                "piece(0, 3) = 12", "piece(0, 4) = 0", "piece(0, 5) = 0", "piece(1, 0) = 40",
                "piece(1, 1) = -20", "piece(1, 2) = 12", "piece(1, 3) = 1", "piece(1, 4) = 100",
                "piece(1, 5) = 3");
        Doc.says(PAGE, "Parts of it may lie outside of the page.");
        Checks.rows(new Played(), "addPiece(-20, -20, 12, 12, 0) = 0", "piece(0, 12) = 144",
                "addPiece(-1, -1, 3, 3, 0) = 1", "piece(1, 12) = 5", "piece(1, 7) = 4",
                "addPiece(15, 11, 3, 3, 0) = 2", "piece(2, 12) = 8", "piece(2, 7) = 1",
                "addPiece(16, 0, 3, 3, 0) = 3", "piece(3, 12) = 9", "piece(3, 7) = 0",
                "addPiece(0, 12, 3, 3, 0) = 4", "piece(4, 12) = 9", "addPiece(4, 0, 12, 12, 0) = 5",
                "piece(5, 12) = 0", "addPiece(40, 40, 12, 12, 0) = 6", "piece(6, 12) = 144");
    }

    private static void layers() {
        Doc.says(PAGE, "The pieces lie in layers, numbered from 0 for the lowest one;");
        Played p = new Played();
        Checks.rows(p, "addPiece(0, 0, 2, 2, 0) = 0", "piece(0, 6) = 0", "inLayer(0) = 0",
                "addPiece(0, 0, 1, 1, 0) = 1", "addPiece(0, 0, 1, 1, 0) = 2", "setLayer(0, 2) = 0",
                "piece(0, 6) = 2", "piece(1, 6) = 0", "piece(2, 6) = 1", "seen(0, 0) = 0",
                "setLayer(0, 0) = 2", "seen(0, 0) = 2", "piece(0, 6) = 0", "piece(1, 6) = 1");
        Doc.says(PAGE, "A piece that is added lies on top of all others.");
        Checks.rows(p, "setLayer(2, 0) = 2", "addPiece(0, 0, 1, 1, 0) = 3", "piece(3, 6) = 3",
                "inLayer(3) = 3", "seen(0, 0) = 3");
        Played full = inARow(11);
        Checks.rows(full, "setLayer(10, 0) = 10", "addPiece(0, 0, 1, 1, 0) = 11",
                "piece(11, 6) = 11", "seen(0, 0) = 11");
    }

    private static void shifts() {
        Doc.says(MOVES, "A shift of a piece by (dx, dy) adds dx to X and dy to Y;");
        Played p = new Played();
        Checks.rows(p, "addPiece(10, 10, 1, 1, 0) = 0", "addPiece(-20, 40, 1, 1, 0) = 1",
                "shift(0, 3, -4) = 7", "piece(0, 0) = 13", "piece(0, 1) = 6", "shift(0, 0, 0) = 0",
                "shift(0, -3, 0) = 3", "shift(0, 0, 4) = 4", "piece(0, 0) = 10", "piece(0, 1) = 10",
                "shift(1, 60, -60) = 120", "piece(1, 0) = 40", "piece(1, 1) = -20",
                "count(7) = 134", "shift(1, -60, 60) = 120", "count(7) = 254");
        Doc.says(MOVES, "It is possible if X and Y are from -20 to 40 then.");
        Checks.rows(p.again(), "shift(0, 30, 30) = 60", "piece(0, 0) = 40", "piece(0, 1) = 40");
        Checks.rows(p.again(), "shift(0, -30, -30) = 60", "piece(0, 0) = -20", "piece(0, 1) = -20");
        Checks.still(p, "shift(0, 31, 0) = ILLEGAL_STATE", "shift(0, 0, 31) = ILLEGAL_STATE",
                "shift(0, -31, 0) = ILLEGAL_STATE", "shift(0, 0, -31) = ILLEGAL_STATE",
                "shift(0, 31, -31) = ILLEGAL_STATE", "shift(1, -1, 0) = ILLEGAL_STATE",
                "shift(1, 0, 1) = ILLEGAL_STATE");
    }

    private static void setPage() {
        // 0 and 1 always lie on the page, 2 needs five columns, 3 five rows, 4 the largest page.
        Played p = new Played();
        Checks.rows(p, "addPiece(3, 3, 1, 1, 100) = 0", "addPiece(9, 9, 1, 1, 0) = 1",
                "addPiece(4, 0, 1, 1, 100) = 2", "addPiece(0, 4, 1, 1, 100) = 3",
                "addPiece(23, 23, 1, 1, 100) = 4");
        Doc.says("Promise 2", "Sets the page; the pieces stay where they are.");
        Checks.rows(p.again(), "setPage(4, 4) = 2", "count(1) = 4", "count(2) = 4",
                "piece(4, 0) = 23", "piece(4, 1) = 23", "piece(2, 7) = 0", "setPage(24, 24) = 5",
                "count(1) = 24", "count(2) = 24", "seen(23, 23) = 4", "seen(4, 0) = 2",
                "inLayer(4) = 4");
        Doc.says("Promise 2", "This is an action.");
        Checks.actions(p, "setPage(4, 4) = 2", "setPage(16, 12) = 4", "setPage(24, 24) = 5");
        Doc.says("Promise 2", "`columns`: W, 4 to 24");
        Checks.range(p, "setPage(%, 4)", 4, 2, 24, 3);
        Checks.range(p, "setPage(%, 24)", 4, 3, 24, 5);
        Doc.says("Promise 2", "`rows`: H, 4 to 24");
        Checks.range(p, "setPage(4, %)", 4, 2, 24, 3);
        Checks.range(p, "setPage(24, %)", 4, 3, 24, 5);
        Doc.says("Promise 2", "Returns the number of pieces that are content then;");
        Checks.rows(p.again(), "count(3) = 4", "setPage(4, 5) = 3", "setPage(5, 5) = 4",
                "setPage(5, 4) = 3", "setPage(4, 4) = 2", "setPage(23, 24) = 4",
                "setPage(24, 23) = 4", "setPage(24, 24) = 5", "count(3) = 5");
        Checks.still(p, "setPage(3, 3) = INVALID_ARGUMENT", "setPage(25, 25) = INVALID_ARGUMENT",
                "setPage(3, 25) = INVALID_ARGUMENT", "setPage(0, 0) = INVALID_ARGUMENT");
    }

    private static void addPiece() {
        Played p = inARow(1);
        Doc.says("Promise 3", "Adds a piece without a frame on top of all others.");
        Checks.rows(p.again(), "addPiece(0, 0, 2, 2, 0) = 1", "setFrame(1, 3) = 0",
                "removePiece(1) = 1", "addPiece(0, 0, 2, 2, 0) = 1", "piece(1, 5) = 0",
                "piece(1, 6) = 1", "seen(0, 0) = 1", "count(5) = 0");
        Doc.says("Promise 3", "This is an action.");
        Checks.actions(p, "addPiece(0, 0, 2, 2, 0) = 1");
        Doc.says("Promise 3", "`x`: -20 to 40");
        Checks.range(p, "addPiece(%, 0, 1, 1, 0)", -20, 1, 40, 1);
        Doc.says("Promise 3", "`y`: -20 to 40");
        Checks.range(p, "addPiece(0, %, 1, 1, 0)", -20, 1, 40, 1);
        Doc.says("Promise 3", "`width`: 1 to 12");
        Checks.range(p, "addPiece(0, 0, %, 1, 0)", 1, 1, 12, 1);
        Checks.range(p, "addPiece(40, 40, %, 12, 100)", 1, 1, 12, 1);
        Doc.says("Promise 3", "`height`: 1 to 12");
        Checks.range(p, "addPiece(0, 0, 1, %, 0)", 1, 1, 12, 1);
        Checks.range(p, "addPiece(-20, -20, 12, %, 100)", 1, 1, 12, 1);
        Doc.says("Promise 3", "`share`: 0 to 100");
        Checks.range(p, "addPiece(0, 0, 1, 1, %)", 0, 1, 100, 1);
        Doc.says("Promise 3",
                "Returns its number; INVALID_ARGUMENT if an argument is out of range;");
        Checks.rows(inARow(11), "addPiece(0, 0, 1, 1, 0) = 11");
        Played full = inARow(12);
        Checks.still(full, "addPiece(0, 0, 1, 1, 0) = CAPACITY_EXCEEDED",
                "addPiece(40, 40, 12, 12, 100) = CAPACITY_EXCEEDED",
                "addPiece(-21, 0, 1, 1, 0) = INVALID_ARGUMENT",
                "addPiece(0, 41, 1, 1, 0) = INVALID_ARGUMENT",
                "addPiece(0, 0, 0, 1, 0) = INVALID_ARGUMENT",
                "addPiece(0, 0, 1, 13, 0) = INVALID_ARGUMENT",
                "addPiece(0, 0, 1, 1, 101) = INVALID_ARGUMENT");
        Checks.rows(full, "removePiece(3) = 11", "addPiece(0, 0, 1, 1, 0) = 11");
    }

    private static void removePiece() {
        Doc.says("Promise 4", "Removes a piece.");
        Checks.rows(inARow(3), "setLayer(0, 1) = 0", "removePiece(1) = 2", "piece(0, 0) = 0",
                "piece(1, 0) = 2", "seen(1, 0) = -1", "seen(2, 0) = 1", "inLayer(0) = 0",
                "inLayer(1) = 1", "inLayer(2) = INVALID_ARGUMENT");
        Doc.says("Promise 4", "This is an action.");
        Checks.actions(inARow(1), "removePiece(0) = 0");
        Checks.actions(inARow(12), "removePiece(0) = 11", "removePiece(11) = 11");
        Doc.says("Promise 4", "`piece`: a piece");
        Checks.range(inARow(1), "removePiece(%)", 0, 0, 0, 0);
        Checks.range(inARow(12), "removePiece(%)", 0, 11, 11, 11);
        Doc.says("Promise 4", "Returns the number of pieces then; INVALID_ARGUMENT if there is");
        Played p = inARow(12);
        for (int left = 11; left >= 0; left--) {
            Checks.rows(p, "removePiece(" + left / 2 + ") = " + left, "count(0) = " + left);
        }
        Checks.still(p, "removePiece(0) = INVALID_ARGUMENT");
    }

    private static void setShare() {
        Doc.says("Promise 5", "Sets the asked share of a piece.");
        Checks.rows(inARow(2), "setShare(1, 70) = 50", "piece(1, 4) = 70", "piece(0, 4) = 50");
        Doc.says("Promise 5", "This is an action.");
        Checks.actions(inARow(2), "setShare(1, 0) = 50", "setShare(1, 50) = 50");
        Doc.says("Promise 5", "`piece`: a piece");
        Checks.range(inARow(1), "setShare(%, 0)", 0, 50, 0, 50);
        Checks.range(inARow(12), "setShare(%, 100)", 0, 50, 11, 50);
        Doc.says("Promise 5", "`share`: 0 to 100");
        Checks.range(inARow(2), "setShare(1, %)", 0, 50, 100, 50);
        Doc.says("Promise 5", "Returns the previous share; INVALID_ARGUMENT if an argument");
        Checks.rows(inARow(1), "setShare(0, 100) = 50", "setShare(0, 0) = 100",
                "setShare(0, 0) = 0");
        Checks.still(inARow(1), "setShare(1, 101) = INVALID_ARGUMENT",
                "setShare(-1, -1) = INVALID_ARGUMENT");
    }

    private static void setFrame() {
        Doc.says("Promise 6", "Sets the frame of a piece.");
        Checks.rows(inARow(2), "setFrame(1, 2) = 0", "piece(1, 5) = 2", "piece(0, 5) = 0");
        Doc.says("Promise 6", "This is an action.");
        Checks.actions(inARow(2), "setFrame(1, 3) = 0", "setFrame(1, 0) = 0");
        Doc.says("Promise 6", "`piece`: a piece");
        Checks.range(inARow(1), "setFrame(%, 1)", 0, 0, 0, 0);
        Checks.range(inARow(12), "setFrame(%, 3)", 0, 0, 11, 0);
        Doc.says("Promise 6", "`frame`: 0 to 3");
        Checks.range(inARow(2), "setFrame(1, %)", 0, 0, 3, 0);
        Doc.says("Promise 6", "Returns the previous frame; INVALID_ARGUMENT if an argument");
        Checks.rows(inARow(1), "setFrame(0, 3) = 0", "setFrame(0, 0) = 3", "setFrame(0, 0) = 0");
        Checks.still(inARow(1), "setFrame(1, 4) = INVALID_ARGUMENT",
                "setFrame(-1, -1) = INVALID_ARGUMENT");
    }

    private static void shift() {
        Doc.says("Promise 7", "Shifts a piece.");
        Checks.rows(inARow(2), "shift(1, -3, 5) = 8", "piece(1, 0) = -2", "piece(1, 1) = 5",
                "piece(0, 0) = 0", "piece(0, 1) = 0", "piece(1, 6) = 1");
        Doc.says("Promise 7", "This is an action.");
        Checks.actions(inARow(2), "shift(1, -3, 5) = 8", "shift(1, 0, 0) = 0");
        Doc.says("Promise 7", "`piece`: a piece");
        Checks.range(inARow(1), "shift(%, 1, 0)", 0, 1, 0, 1);
        Checks.range(inARow(12), "shift(%, 0, 1)", 0, 1, 11, 1);
        Played p = new Played();
        Checks.rows(p, "addPiece(-20, 40, 1, 1, 0) = 0", "addPiece(40, -20, 1, 1, 0) = 1");
        Doc.says("Promise 7", "`dx`: -60 to 60");
        Checks.range(p, "shift(0, %, 0)", -60, Checks.STATE, 60, 60);
        Checks.range(p, "shift(1, %, 0)", -60, 60, 60, Checks.STATE);
        Doc.says("Promise 7", "`dy`: -60 to 60");
        Checks.range(p, "shift(0, 0, %)", -60, 60, 60, Checks.STATE);
        Checks.range(p, "shift(1, 0, %)", -60, Checks.STATE, 60, 60);
        Doc.says("Promise 7", "Returns the cost; INVALID_ARGUMENT if an argument is out of range;");
        Checks.rows(p.again(), "shift(0, 60, -60) = 120", "shift(0, -60, 60) = 120",
                "shift(0, 0, 0) = 0", "shift(0, 1, 0) = 1", "shift(0, 0, -1) = 1");
        // A shift that is not possible, and an argument that is out of range.
        Checks.still(p, "shift(0, -1, 0) = ILLEGAL_STATE", "shift(0, -1, -61) = INVALID_ARGUMENT",
                "shift(0, -61, 1) = INVALID_ARGUMENT", "shift(2, -1, 0) = INVALID_ARGUMENT",
                "shift(-1, -60, -60) = INVALID_ARGUMENT", "shift(1, 61, 61) = INVALID_ARGUMENT");
    }

    private static void setLayer() {
        Doc.says("Promise 8", "Puts a piece into a layer; the others keep their order.");
        Checks.rows(inARow(4), "setLayer(3, 0) = 3", "inLayer(0) = 3", "inLayer(1) = 0",
                "inLayer(2) = 1", "inLayer(3) = 2", "setLayer(3, 3) = 0", "inLayer(0) = 0",
                "inLayer(1) = 1", "inLayer(2) = 2", "inLayer(3) = 3", "setLayer(1, 2) = 1",
                "inLayer(0) = 0", "inLayer(1) = 2", "inLayer(2) = 1", "inLayer(3) = 3");
        Doc.says("Promise 8", "This is an action.");
        Checks.actions(inARow(3), "setLayer(0, 2) = 0", "setLayer(2, 0) = 2", "setLayer(1, 1) = 1");
        Doc.says("Promise 8", "`piece`: a piece");
        Checks.range(inARow(1), "setLayer(%, 0)", 0, 0, 0, 0);
        Checks.range(inARow(12), "setLayer(%, 5)", 0, 0, 11, 11);
        Doc.says("Promise 8", "`layer`: 0 to the number of pieces minus 1");
        Checks.range(inARow(1), "setLayer(0, %)", 0, 0, 0, 0);
        Checks.range(inARow(2), "setLayer(1, %)", 0, 1, 1, 1);
        Checks.range(inARow(12), "setLayer(5, %)", 0, 5, 11, 5);
        Doc.says("Promise 8", "Returns its previous layer; INVALID_ARGUMENT if an argument");
        Checks.rows(inARow(12), "setLayer(0, 11) = 0", "setLayer(0, 11) = 11",
                "setLayer(0, 0) = 11", "setLayer(0, 0) = 0");
        Checks.still(inARow(2), "setLayer(2, 2) = INVALID_ARGUMENT",
                "setLayer(-1, -1) = INVALID_ARGUMENT");
    }

    private static void arrange() {
        Doc.says("Promise 9", "This is an action.");
        Played far = new Played();
        Checks.rows(far, "addPiece(-9, 0, 1, 1, 100) = 0", "addPiece(0, 0, 1, 1, 100) = 1");
        Checks.actions(far, "arrange() = 0");
        Played near = new Played();
        Checks.rows(near, "addPiece(-8, 0, 1, 1, 100) = 0", "addPiece(3, -2, 1, 1, 100) = 1");
        Checks.actions(near, "arrange() = 2");
        Doc.says("Promise 9", "Returns the number of shifts that were made; ILLEGAL_STATE if all");
        Checks.rows(near, "arrange() = 2", "count(7) = 10", "count(3) = 2");
        Checks.still(near, "arrange() = ILLEGAL_STATE");
        Checks.rows(far, "arrange() = 0", "arrange() = 0", "count(3) = 1", "setShare(0, 0) = 100");
        Checks.still(far, "arrange() = ILLEGAL_STATE");
        Checks.still(new Played(), "arrange() = ILLEGAL_STATE");
    }

    private static void arrangeAtMostTwelve() {
        Doc.says("Promise 9", "Lets pieces be seen as asked, by shifts: as long as some piece is");
        // Each piece is put upon the one before it, which must move on: n pieces on one cell take
        // n * (n - 1) / 2 shifts by 1.
        for (int n = 2; n <= 6; n++) {
            Played p = new Played();
            for (int i = 0; i < n; i++) {
                Checks.rows(p, "addPiece(6, 5, 1, 1, 100) = " + i);
            }
            int shifts = n * (n - 1) / 2;
            Checks.rows(p, "arrange() = " + Math.min(shifts, 12),
                    "count(7) = " + Math.min(shifts, 12), "count(8) = " + Math.min(n + 1, 5));
            if (shifts > 12) {
                Checks.rows(p, "count(3) = 5", "arrange() = " + (shifts - 12));
            }
            Checks.rows(p, "count(7) = " + shifts, "count(3) = " + n, "arrange() = ILLEGAL_STATE");
        }
        Played twelve = new Played();
        for (int i = 0; i < 12; i++) {
            Checks.rows(twelve, "addPiece(-1, " + i + ", 1, 1, 100) = " + i);
        }
        Checks.rows(twelve, "arrange() = 12", "count(3) = 12", "arrange() = ILLEGAL_STATE");
        // Both could go to the cell (0, 0) for 1. When 0 does, 1 goes upon it, and 0 moves on.
        Played corner = new Played();
        Checks.rows(corner, "addPiece(-1, 0, 1, 1, 100) = 0", "addPiece(0, -1, 1, 1, 100) = 1",
                "arrange() = 3", "piece(0, 0) = 0", "piece(0, 1) = 1", "piece(1, 1) = 0");
        // The cheapest one goes first: 1 for 1, then 0 for 3, as (0, 0) is hidden by 1 then.
        Played cheaper = new Played();
        Checks.rows(cheaper, "addPiece(-2, 0, 1, 1, 100) = 0", "addPiece(-1, 0, 1, 1, 100) = 1",
                "arrange() = 2", "piece(0, 0) = 0", "piece(0, 1) = 1", "piece(1, 0) = 0",
                "piece(1, 1) = 0", "count(7) = 4");
        // One of two has a shift; then none has one.
        Played one = new Played();
        Checks.rows(one, "addPiece(-9, 0, 1, 1, 100) = 0", "addPiece(-8, 4, 1, 1, 100) = 1",
                "arrange() = 1", "count(7) = 8", "arrange() = 0");
        // A shift that leaves fewer pieces content is none for the aim 1.
        Played fewer = new Played();
        Checks.rows(fewer, "setPage(4, 4) = 0", "addPiece(0, 0, 4, 2, 100) = 0",
                "addPiece(0, 2, 2, 2, 100) = 1", "addPiece(2, 2, 2, 2, 100) = 2",
                "addPiece(-5, 0, 4, 4, 100) = 3", "arrange() = 0", "leastShift(3, 0, 0) = 5",
                "leastShift(3, 1, 0) = NONE");
    }
}
