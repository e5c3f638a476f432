/** The sentences of the document on what is seen and on frames: promises 14 to 21. */
final class LookingBounds {
    private static final String SEEN = "What is seen";
    private static final String FRAMES = "Frames";

    private LookingBounds() {
    }

    static void run() {
        uppermostPiece();
        content();
        parts();
        edges();
        hiddenCells();
        strips();
        narrowFrames();
        cutAndWhole();
        count();
        countFromLowToHigh();
        piece();
        seen();
        inLayer();
        covering();
        edge();
        hides();
        byShare();
        byShareRoundedDown();
    }

    private static Played made(String... rows) {
        Played p = new Played();
        Checks.rows(p, rows);
        return p;
    }

    /** The largest page, and pieces of one cell that lie upon one another at (5, 5). */
    private static Played stacked(int number) {
        Played p = made("setPage(24, 24) = 0");
        for (int i = 0; i < number; i++) {
            Checks.rows(p, "addPiece(5, 5, 1, 1, 0) = " + i);
        }
        return p;
    }

    private static void uppermostPiece() {
        Doc.says(SEEN, "In a cell of the page, the uppermost piece that covers it is seen;");
        Checks.rows(made("addPiece(0, 0, 3, 3, 0) = 0", "addPiece(1, 1, 3, 3, 0) = 1"),
                "seen(0, 0) = 0", "seen(1, 1) = 1", "seen(2, 2) = 1", "seen(3, 3) = 1",
                "seen(4, 4) = -1", "seen(3, 0) = -1", "seen(0, 3) = -1", "setLayer(0, 1) = 0",
                "seen(1, 1) = 0", "seen(2, 2) = 0", "seen(3, 3) = 1");
        Checks.rows(stacked(12), "seen(5, 5) = 11", "seen(4, 5) = -1", "seen(5, 6) = -1",
                "setLayer(0, 11) = 0", "seen(5, 5) = 0", "removePiece(0) = 11", "seen(5, 5) = 10");
        Doc.says(SEEN, "The seen part of a piece consists of all cells of the page in which it");
        Checks.rows(made("addPiece(-1, 0, 4, 4, 0) = 0"), "piece(0, 7) = 12",
                "addPiece(1, 1, 1, 1, 0) = 1", "piece(0, 7) = 11", "piece(1, 7) = 1",
                "addPiece(-3, 0, 12, 12, 0) = 2", "piece(0, 7) = 0", "piece(1, 7) = 0");
        Checks.rows(made("setPage(24, 24) = 0", "addPiece(12, 12, 12, 12, 0) = 0"),
                "piece(0, 7) = 144", "shift(0, 1, 1) = 2", "piece(0, 7) = 121",
                "shift(0, 11, 11) = 22", "piece(0, 7) = 0", "shift(0, -1, -1) = 2",
                "piece(0, 7) = 1", "shift(0, -34, -34) = 68", "piece(0, 7) = 1",
                "shift(0, -1, 0) = 1", "piece(0, 7) = 0");
    }

    private static void content() {
        Doc.says(SEEN, "A piece is content if (the number of cells of its seen part) * 100 is at");
        Checks.rows(made("addPiece(0, 0, 2, 5, 50) = 0"), "addPiece(0, 0, 1, 5, 0) = 1",
                "piece(0, 8) = 1", "setShare(0, 51) = 50", "piece(0, 8) = 0",
                "setShare(0, 50) = 51", "addPiece(1, 0, 1, 1, 0) = 2", "piece(0, 8) = 0",
                "setShare(0, 40) = 50", "piece(0, 8) = 1", "setShare(0, 41) = 40",
                "piece(0, 8) = 0");
        // 144 cells, 143 and 142 of them.
        Checks.rows(made("addPiece(0, 0, 12, 12, 100) = 0"), "piece(0, 8) = 1",
                "addPiece(0, 0, 1, 1, 0) = 1", "piece(0, 8) = 0", "setShare(0, 99) = 100",
                "piece(0, 8) = 1", "addPiece(1, 0, 1, 1, 0) = 2", "piece(0, 8) = 0",
                "setShare(0, 98) = 99", "piece(0, 8) = 1");
        // One cell of 144 is less than one of a hundred, two cells are more.
        Checks.rows(made("addPiece(15, 11, 12, 12, 1) = 0"), "piece(0, 7) = 1", "piece(0, 8) = 0",
                "shift(0, -1, 0) = 1", "piece(0, 7) = 2", "piece(0, 8) = 1");
        Checks.rows(made("addPiece(16, 0, 1, 1, 0) = 0"), "piece(0, 7) = 0", "piece(0, 8) = 1",
                "setShare(0, 1) = 0", "piece(0, 8) = 0", "shift(0, -1, 0) = 1",
                "setShare(0, 100) = 1", "piece(0, 8) = 1");
    }

    private static void parts() {
        Doc.says(SEEN, "The parts of a piece are the connected pieces of its seen part, where");
        Checks.rows(made("addPiece(2, 2, 2, 2, 0) = 0"), "piece(0, 9) = 1", "piece(0, 10) = 4",
                "addPiece(2, 2, 1, 1, 0) = 1", "piece(0, 9) = 1", "piece(0, 10) = 3",
                "addPiece(3, 3, 1, 1, 0) = 2", "piece(0, 9) = 2", "piece(0, 10) = 1",
                "addPiece(2, 3, 1, 1, 0) = 3", "piece(0, 9) = 1", "piece(0, 10) = 1",
                "addPiece(3, 2, 1, 1, 0) = 4", "piece(0, 9) = 0", "piece(0, 10) = 0");
        Checks.rows(made("addPiece(16, 0, 12, 12, 0) = 0"), "piece(0, 9) = 0", "piece(0, 10) = 0");
        // The end of a row and the beginning of the next one have no side in common.
        Checks.rows(made("setPage(4, 4) = 0", "addPiece(-1, -1, 12, 12, 0) = 0",
                "addPiece(0, 0, 3, 1, 0) = 1", "addPiece(1, 1, 3, 1, 0) = 2",
                "addPiece(0, 2, 4, 2, 0) = 3"), "piece(0, 7) = 2", "piece(0, 9) = 2",
                "piece(0, 10) = 1");
        // Outside of the page nothing connects.
        Checks.rows(made("setPage(4, 4) = 0", "addPiece(0, 2, 4, 4, 0) = 0",
                "addPiece(1, 2, 2, 2, 0) = 1"), "piece(0, 9) = 2", "piece(0, 10) = 2",
                "shift(1, 0, -1) = 1", "piece(0, 9) = 1", "piece(0, 10) = 6");
        // As many parts as there can be.
        Played p = made("addPiece(0, 0, 12, 12, 0) = 0");
        for (int i = 1; i <= 6; i++) {
            Checks.rows(p, "addPiece(" + (2 * i - 1) + ", 0, 1, 12, 0) = " + i);
        }
        for (int i = 1; i <= 5; i++) {
            Checks.rows(p, "addPiece(0, " + (2 * i - 1) + ", 12, 1, 0) = " + (6 + i));
        }
        Checks.rows(p, "piece(0, 9) = 36", "piece(0, 10) = 2", "piece(1, 9) = 6",
                "piece(1, 10) = 2",
                "piece(11, 9) = 1", "piece(11, 10) = 12");
    }

    private static void edges() {
        Doc.says(SEEN, "An edge is a side that two cells of the page have in common, or a side");
        // At each place of the smallest page: the sides on its border, and the others.
        for (int x = -1; x <= 4; x++) {
            for (int y = -1; y <= 4; y++) {
                Played p = made("setPage(4, 4) = 0", "addPiece(" + x + ", " + y + ", 1, 1, 0) = 0");
                boolean outside = x < 0 || x > 3 || y < 0 || y > 3;
                int border = (x % 3 == 0 ? 1 : 0) + (y % 3 == 0 ? 1 : 0);
                Checks.rows(p, "edge(0, -2) = " + (outside ? 0 : border),
                        "edge(0, -1) = " + (outside ? 0 : 4 - border));
            }
        }
        Checks.rows(made("setPage(4, 4) = 0", "addPiece(-1, -1, 12, 12, 0) = 0"),
                "edge(0, -2) = 16",
                "edge(0, -1) = 0", "setPage(10, 4) = 1", "edge(0, -2) = 28", "setPage(4, 24) = 1",
                "edge(0, -2) = 26", "edge(0, -1) = 4");
        Doc.says(SEEN, "The edge of a piece with another piece, or with the page, consists of all");
        Checks.rows(made("setPage(24, 24) = 0", "addPiece(0, 0, 12, 12, 0) = 0",
                "addPiece(12, 0, 12, 12, 0) = 1", "addPiece(12, 12, 12, 12, 0) = 2"),
                "edge(0, 1) = 12", "edge(1, 0) = 12", "edge(1, 2) = 12", "edge(2, 1) = 12",
                "edge(0, 2) = 0", "edge(2, 0) = 0", "edge(0, -1) = 12", "edge(0, -2) = 24",
                "edge(1, -1) = 0", "edge(1, -2) = 24", "edge(2, -1) = 12", "edge(2, -2) = 24");
        // The end of a row and the beginning of the next one.
        for (int columns : new int[] {4, 16, 24}) {
            Played p = made("setPage(" + columns + ", 4) = 0",
                    "addPiece(" + (columns - 1) + ", 0, 1, 1, 0) = 0",
                    "addPiece(0, 1, 1, 1, 0) = 1");
            Checks.rows(p, "edge(0, 1) = 0", "edge(1, 0) = 0", "edge(0, -1) = 2",
                    "edge(1, -1) = 3");
        }
        Checks.rows(made("addPiece(0, 0, 5, 5, 0) = 0", "addPiece(1, 1, 3, 3, 0) = 1"),
                "edge(0, 1) = 12", "edge(1, 0) = 12", "edge(1, -1) = 0", "edge(1, -2) = 0",
                "addPiece(0, 0, 5, 5, 0) = 2", "edge(0, 1) = 0", "edge(1, 2) = 0",
                "edge(0, -1) = 0",
                "edge(0, -2) = 0", "edge(2, -1) = 10", "edge(2, -2) = 10");
    }

    private static void hiddenCells() {
        Doc.says(SEEN, "Piece a hides a cell of piece b if b covers it, it lies on the page, and");
        Checks.rows(made("addPiece(0, 0, 2, 2, 0) = 0", "addPiece(0, 0, 2, 2, 0) = 1",
                "addPiece(0, 0, 1, 2, 0) = 2"), "hides(1, 0) = 2", "hides(2, 0) = 2",
                "hides(2, 1) = 2", "hides(0, 1) = 0", "hides(1, 2) = 0", "hides(0, 2) = 0");
        Checks.rows(made("addPiece(-2, 0, 4, 2, 0) = 0", "addPiece(-2, -1, 4, 2, 0) = 1"),
                "hides(1, 0) = 2", "shift(1, 0, 1) = 1", "hides(1, 0) = 4", "shift(0, -2, 0) = 2",
                "hides(1, 0) = 0", "shift(0, 6, 0) = 6", "hides(1, 0) = 0", "shift(0, -1, 0) = 1",
                "hides(1, 0) = 2");
        Checks.rows(made("addPiece(4, 0, 12, 12, 0) = 0", "addPiece(4, 0, 12, 12, 0) = 1"),
                "hides(1, 0) = 144", "hides(0, 1) = 0", "shift(0, 1, 0) = 1", "hides(1, 0) = 132");
    }

    private static void strips() {
        Doc.says(FRAMES, "The frame of a piece with the frame f consists of four strips: 0 left,");
        // A piece from (2, 0) to (13, 11), and one of its cells that is hidden, that deep in it.
        for (int frame = 0; frame <= 3; frame++) {
            for (int depth = 0; depth <= 3; depth++) {
                boolean cut = depth < frame;
                int far = 11 - depth;
                strip(frame, 2 + depth, 6, cut ? 1 : 0);
                strip(frame, 8, depth, cut ? 2 : 0);
                strip(frame, 2 + far, 6, cut ? 4 : 0);
                strip(frame, 8, far, cut ? 8 : 0);
                strip(frame, 2 + depth, depth, cut ? 3 : 0);
                strip(frame, 2 + far, depth, cut ? 6 : 0);
                strip(frame, 2 + far, far, cut ? 12 : 0);
                strip(frame, 2 + depth, far, cut ? 9 : 0);
            }
        }
    }

    private static void strip(int frame, int column, int row, int due) {
        Checks.rows(made("addPiece(2, 0, 12, 12, 0) = 0", "setFrame(0, " + frame + ") = 0",
                "addPiece(" + column + ", " + row + ", 1, 1, 0) = 1"), "piece(0, 11) = " + due,
                "count(5) = " + (frame > 0 && due == 0 ? 1 : 0));
    }

    private static void narrowFrames() {
        Doc.says(FRAMES, "The left strip has the cells of its f leftmost columns, the right one");
        // Of pieces with 1 to 5 columns, or rows, one is hidden: which strips have it?
        for (int size = 1; size <= 5; size++) {
            for (int place = 0; place < size; place++) {
                for (int frame = 1; frame <= 3; frame++) {
                    int first = place < frame ? 1 : 0;
                    int last = size - 1 - place < frame ? 4 : 0;
                    Checks.rows(made("addPiece(2, 0, " + size + ", 12, 0) = 0",
                            "addPiece(" + (2 + place) + ", 5, 1, 1, 0) = 1",
                            "setFrame(0, " + frame + ") = 0"), "piece(0, 11) = " + (first + last));
                    Checks.rows(made("addPiece(2, 0, 12, " + size + ", 0) = 0",
                            "addPiece(7, " + place + ", 1, 1, 0) = 1",
                            "setFrame(0, " + frame + ") = 0"),
                            "piece(0, 11) = " + 2 * (first + last));
                }
            }
        }
    }

    private static void cutAndWhole() {
        Doc.says(FRAMES,
                "A strip is cut if one of its cells is not in the seen part (also because");
        Played p = made("addPiece(0, 0, 5, 5, 0) = 0", "setFrame(0, 2) = 0", "piece(0, 11) = 0");
        Checks.rows(p.again(), "shift(0, -1, 0) = 1", "piece(0, 11) = 11");
        Checks.rows(p.again(), "shift(0, 0, -1) = 1", "piece(0, 11) = 7");
        Checks.rows(p.again(), "shift(0, -1, -1) = 2", "piece(0, 11) = 15");
        Checks.rows(p.again(), "shift(0, 11, 7) = 18", "piece(0, 11) = 0", "shift(0, 1, 0) = 1",
                "piece(0, 11) = 14", "shift(0, -1, 1) = 2", "piece(0, 11) = 13");
        Checks.rows(p.again(), "shift(0, -5, 0) = 5", "piece(0, 11) = 15");
        Checks.rows(p.again(), "setPage(5, 5) = 1", "piece(0, 11) = 0", "setPage(4, 5) = 1",
                "piece(0, 11) = 14", "setPage(5, 4) = 1", "piece(0, 11) = 13");
        Doc.says(FRAMES, "A frame is whole if no strip of it is cut; without a frame (f is 0), no");
        Checks.rows(p, "count(5) = 1", "addPiece(2, 2, 1, 1, 0) = 1", "count(5) = 1",
                "setFrame(1, 1) = 0", "count(5) = 2", "shift(1, -1, 0) = 1", "count(5) = 1",
                "setFrame(0, 0) = 2", "piece(0, 11) = 0", "count(5) = 1", "shift(0, -5, 0) = 5",
                "piece(0, 11) = 0", "setFrame(1, 0) = 1", "count(5) = 0");
    }

    private static void count() {
        Doc.says("Promise 14", "Returns a number.");
        Played p = made("setPage(10, 9) = 0", "addPiece(-1, 0, 2, 2, 50) = 0",
                "addPiece(8, 8, 4, 1, 51) = 1", "addPiece(8, 8, 2, 1, 100) = 2",
                "setFrame(2, 3) = 0", "setFrame(0, 1) = 0", "shift(2, -1, 0) = 1");
        Checks.type(p, "page");
        Checks.still(p, "count(0) = 3", "count(1) = 10", "count(2) = 9", "count(3) = 2",
                "count(4) = 0", "count(5) = 1", "count(6) = 85", "count(7) = 1", "count(8) = 5",
                "count(9) = 4");
        Doc.says("Promise 14", "Returns the number; INVALID_ARGUMENT if what is out of range.");
        Checks.range(p, "count(%)", 0, 3, 9, 4);
        Checks.range(new Played(), "count(%)", 0, 0, 9, 0);
    }

    private static void countFromLowToHigh() {
        Doc.says("Promise 14", "`what`: 0 the number of pieces, 1 W, 2 H, 3 the number of pieces");
        Played p = made("setPage(24, 24) = 0", "count(1) = 24", "count(2) = 24", "count(6) = 576",
                "count(3) = 0", "count(4) = 0", "count(5) = 0", "setPage(4, 4) = 0", "count(1) = 4",
                "count(2) = 4", "count(6) = 16");
        for (int i = 0; i < 12; i++) {
            Checks.rows(p, "addPiece(" + i % 4 + ", " + i / 4 + ", 1, 1, 100) = " + i,
                    "setFrame(" + i + ", 1) = 0", "count(0) = " + (i + 1), "count(3) = " + (i + 1),
                    "count(4) = 0", "count(5) = " + (i + 1), "count(6) = " + (15 - i));
        }
        // Nothing is seen of a piece, though it asks for nothing and is content.
        made("addPiece(-1, 0, 1, 1, 0) = 0", "count(4) = 1", "count(3) = 1", "shift(0, 1, 0) = 1",
                "count(4) = 0", "addPiece(0, 0, 1, 1, 0) = 1", "count(4) = 1", "count(3) = 2");
        // The last piece comes upon the one beside it, again and again.
        for (int i = 0; i < 11; i++) {
            Checks.rows(p, "shift(11, " + (i % 4 == 3 ? "3, -1) = 4" : "-1, 0) = 1"),
                    "count(4) = 1", "count(3) = 11", "count(5) = 11", "count(6) = 5");
        }
        Checks.rows(p, "count(7) = 17", "removePiece(11) = 11", "count(4) = 0", "count(7) = 17",
                "addPiece(0, 0, 12, 12, 12) = 11", "count(0) = 12", "count(6) = 0", "count(4) = 11",
                "count(3) = 0", "count(5) = 0", "setShare(11, 11) = 12", "count(3) = 1",
                "shift(11, -20, 0) = 20", "count(4) = 1", "count(6) = 5", "count(7) = 37");
    }

    private static void piece() {
        Doc.says("Promise 15", "Returns a property of a piece.");
        Played p = made("addPiece(-3, 2, 5, 4, 35) = 0", "addPiece(1, 3, 12, 1, 100) = 1",
                "setFrame(0, 2) = 0", "setLayer(0, 0) = 0");
        Checks.still(p, "piece(0, 0) = -3", "piece(0, 1) = 2", "piece(0, 2) = 5", "piece(0, 3) = 4",
                "piece(0, 4) = 35", "piece(0, 5) = 2", "piece(0, 6) = 0", "piece(0, 7) = 7",
                "piece(0, 8) = 1", "piece(0, 9) = 1", "piece(0, 10) = 7", "piece(0, 11) = 15",
                "piece(0, 12) = 12", "piece(1, 6) = 1", "piece(1, 7) = 12", "piece(1, 11) = 0");
        Doc.says("Promise 15", "`piece`: a piece");
        Checks.range(PageBounds.inARow(1), "piece(%, 0)", 0, 0, 0, 0);
        for (int what = 0; what <= 12; what++) {
            Played q = PageBounds.inARow(12);
            Checks.range(q, "piece(%, " + what + ")", 0, q.piece(0, what), 11, q.piece(11, what));
        }
        Doc.says("Promise 15", "`what`: 0 X, 1 Y, 2 the width, 3 the height, 4 the asked share");
        Checks.range(p, "piece(0, %)", 0, -3, 12, 12);
        Checks.range(p, "piece(1, %)", 0, 1, 12, 0);
        Doc.says("Promise 15",
                "Returns the property; INVALID_ARGUMENT if there is no such piece or");
        Checks.still(p, "piece(2, 13) = INVALID_ARGUMENT", "piece(-1, -1) = INVALID_ARGUMENT",
                "piece(2, 0) = INVALID_ARGUMENT", "piece(1, 13) = INVALID_ARGUMENT");
    }

    private static void seen() {
        Doc.says("Promise 16", "Returns what is seen in a cell.");
        Played p = made("addPiece(15, 11, 1, 1, 0) = 0", "addPiece(0, 0, 1, 1, 0) = 1");
        Checks.still(p, "seen(15, 11) = 0", "seen(0, 0) = 1", "seen(15, 0) = -1",
                "seen(0, 11) = -1",
                "seen(14, 11) = -1", "seen(15, 10) = -1");
        Doc.says("Promise 16", "`column`: 0 to W - 1");
        Checks.range(p, "seen(%, 0)", 0, 1, 15, -1);
        Checks.range(made("setPage(4, 4) = 0"), "seen(%, 3)", 0, -1, 3, -1);
        Checks.range(made("setPage(24, 4) = 0"), "seen(%, 0)", 0, -1, 23, -1);
        Doc.says("Promise 16", "`row`: 0 to H - 1");
        Checks.range(p, "seen(15, %)", 0, -1, 11, 0);
        Checks.range(made("setPage(4, 4) = 0"), "seen(3, %)", 0, -1, 3, -1);
        Checks.range(made("setPage(4, 24) = 0"), "seen(0, %)", 0, -1, 23, -1);
        Doc.says("Promise 16", "Returns the piece, or -1 for the page; INVALID_ARGUMENT if an");
        Checks.rows(stacked(12), "seen(5, 5) = 11", "seen(6, 5) = -1", "seen(23, 23) = -1");
        Checks.still(made("setPage(8, 20) = 0"), "seen(8, 7) = INVALID_ARGUMENT",
                "seen(19, 7) = INVALID_ARGUMENT", "seen(7, 19) = -1",
                "seen(7, 20) = INVALID_ARGUMENT");
    }

    private static void inLayer() {
        Doc.says("Promise 17", "Returns the piece in a layer.");
        Played p = PageBounds.inARow(3);
        Checks.rows(p, "setLayer(2, 0) = 2");
        Checks.still(p, "inLayer(0) = 2", "inLayer(1) = 0", "inLayer(2) = 1");
        Doc.says("Promise 17", "`layer`: 0 to the number of pieces minus 1");
        Checks.range(PageBounds.inARow(1), "inLayer(%)", 0, 0, 0, 0);
        Checks.range(p, "inLayer(%)", 0, 2, 2, 1);
        Checks.range(PageBounds.inARow(12), "inLayer(%)", 0, 0, 11, 11);
        Doc.says("Promise 17", "Returns the piece; INVALID_ARGUMENT if layer is out of range.");
        Checks.rows(p, "removePiece(1) = 2", "inLayer(0) = 1", "inLayer(1) = 0",
                "inLayer(2) = INVALID_ARGUMENT", "undo() = 4", "inLayer(2) = 1");
    }

    private static void covering() {
        Doc.says("Promise 18", "Returns a piece that covers a cell.");
        Played p = made("addPiece(0, 0, 4, 4, 0) = 0", "addPiece(3, 3, 2, 2, 0) = 1",
                "addPiece(15, 11, 9, 9, 0) = 2", "setLayer(1, 0) = 1");
        Checks.still(p, "covering(3, 3, 0) = 0", "covering(3, 3, 1) = 1",
                "covering(3, 3, 2) = NONE",
                "covering(4, 4, 0) = 1", "covering(4, 4, 1) = NONE", "covering(2, 3, 1) = NONE",
                "covering(15, 11, 0) = 2", "covering(14, 11, 0) = NONE",
                "covering(5, 4, 0) = NONE");
        Doc.says("Promise 18", "`column`: 0 to W - 1");
        Checks.range(p, "covering(%, 0, 0)", 0, 0, 15, Checks.NONE);
        Checks.range(made("setPage(24, 4) = 0"), "covering(%, 3, 9)", 0, Checks.NONE, 23,
                Checks.NONE);
        Doc.says("Promise 18", "`row`: 0 to H - 1");
        Checks.range(p, "covering(15, %, 0)", 0, Checks.NONE, 11, 2);
        Checks.range(made("setPage(4, 24) = 0"), "covering(3, %, 9)", 0, Checks.NONE, 23,
                Checks.NONE);
        Doc.says("Promise 18",
                "`index`: 0 for the uppermost one, 1 for the next lower one, and so");
        Played twelve = stacked(12);
        for (int index = 0; index < 12; index++) {
            Checks.rows(twelve, "covering(5, 5, " + index + ") = " + (11 - index));
        }
        Doc.says("Promise 18", "Returns the piece; INVALID_ARGUMENT if column or row is out of");
        Checks.still(twelve, "covering(5, 5, 12) = NONE", "covering(5, 5, 13) = NONE",
                "covering(5, 5, 2147483647) = NONE", "covering(5, 5, -1) = INVALID_ARGUMENT",
                "covering(5, 5, -2147483648) = INVALID_ARGUMENT", "covering(6, 5, 0) = NONE",
                "covering(6, 5, -1) = INVALID_ARGUMENT", "covering(24, 5, 0) = INVALID_ARGUMENT",
                "covering(5, 24, 12) = INVALID_ARGUMENT", "covering(-1, 5, -1) = INVALID_ARGUMENT");
        Checks.still(stacked(0), "covering(5, 5, 0) = NONE",
                "covering(5, 5, -1) = INVALID_ARGUMENT");
    }

    private static void edge() {
        Doc.says("Promise 19", "Returns the length of an edge of a piece.");
        Played p = made("addPiece(0, 0, 3, 3, 0) = 0", "addPiece(3, 1, 2, 2, 0) = 1",
                "addPiece(9, 11, 2, 2, 0) = 2");
        Checks.still(p, "edge(0, 1) = 2", "edge(1, 0) = 2", "edge(0, 2) = 0", "edge(0, -1) = 4",
                "edge(0, -2) = 6", "edge(1, -1) = 6", "edge(1, -2) = 0", "edge(2, -1) = 4",
                "edge(2, -2) = 2");
        Doc.says("Promise 19", "`piece`: a piece");
        Checks.range(PageBounds.inARow(1), "edge(%, -2)", 0, 2, 0, 2);
        Checks.range(PageBounds.inARow(12), "edge(%, -1)", 0, 1, 11, 2);
        Checks.range(PageBounds.inARow(12), "edge(%, 1)", 0, 1, 11, 0);
        Doc.says("Promise 19", "`with`: another piece, -1 for the page, or -2 for the border");
        Checks.range(PageBounds.inARow(2), "edge(0, %)", -2, 2, 1, 1);
        Checks.range(PageBounds.inARow(12), "edge(10, %)", -2, 1, 11, 1);
        Doc.says("Promise 19", "Returns the number of sides; INVALID_ARGUMENT if there is no such");
        Checks.still(p, "edge(0, 0) = INVALID_ARGUMENT", "edge(2, 2) = INVALID_ARGUMENT",
                "edge(3, 0) = INVALID_ARGUMENT", "edge(0, 3) = INVALID_ARGUMENT",
                "edge(3, 3) = INVALID_ARGUMENT", "edge(-1, 0) = INVALID_ARGUMENT",
                "edge(-1, -1) = INVALID_ARGUMENT", "edge(-2, -2) = INVALID_ARGUMENT",
                "edge(-1, -2) = INVALID_ARGUMENT", "edge(0, -3) = INVALID_ARGUMENT",
                "edge(3, -2) = INVALID_ARGUMENT", "edge(2, -3) = INVALID_ARGUMENT");
    }

    private static void hides() {
        Doc.says("Promise 20", "Returns how many cells of a piece another one hides.");
        Played p = made("addPiece(0, 0, 4, 4, 0) = 0", "addPiece(2, 2, 4, 4, 0) = 1",
                "addPiece(3, 0, 1, 12, 0) = 2");
        Checks.still(p, "hides(1, 0) = 2", "hides(2, 0) = 4", "hides(2, 1) = 4", "hides(0, 1) = 0",
                "hides(0, 2) = 0", "hides(1, 2) = 0");
        Doc.says("Promise 20", "`piece`: a piece");
        Checks.range(stacked(2), "hides(%, 0)", 1, 1, 1, 1);
        Checks.range(stacked(12), "hides(%, 5)", 0, 0, 11, 1);
        Doc.says("Promise 20", "`hidden`: another piece");
        Checks.range(stacked(12), "hides(11, %)", 0, 1, 10, 1);
        Checks.range(stacked(12), "hides(5, %)", 0, 0, 11, 0);
        Doc.says("Promise 20", "Returns the number of cells of hidden that piece hides;");
        Checks.still(p, "hides(0, 0) = INVALID_ARGUMENT", "hides(2, 2) = INVALID_ARGUMENT",
                "hides(3, 0) = INVALID_ARGUMENT", "hides(0, 3) = INVALID_ARGUMENT",
                "hides(3, 3) = INVALID_ARGUMENT", "hides(-1, 0) = INVALID_ARGUMENT",
                "hides(0, -1) = INVALID_ARGUMENT", "hides(-1, -1) = INVALID_ARGUMENT",
                "hides(0, -2) = INVALID_ARGUMENT");
    }

    private static void byShare() {
        Doc.says("Promise 21", "`index`: 0 for the first one");
        // Seen: 0 a half, 1 all, 2 all, 3 nothing.
        Played p = made("addPiece(0, 0, 4, 4, 0) = 0", "addPiece(0, 2, 4, 4, 0) = 1",
                "addPiece(9, 9, 1, 1, 0) = 2", "addPiece(-5, 0, 5, 5, 0) = 3");
        Checks.still(p, "byShare(0) = 3", "byShare(1) = 0", "byShare(2) = 1", "byShare(3) = 2",
                "byShare(4) = NONE", "byShare(-1) = INVALID_ARGUMENT");
        Doc.says("Promise 21", "Returns the piece; INVALID_ARGUMENT if index is negative; NONE if");
        Played twelve = PageBounds.inARow(12);
        Checks.rows(twelve, "setLayer(11, 0) = 11", "byShare(0) = 11");
        for (int index = 1; index < 12; index++) {
            Checks.rows(twelve, "byShare(" + index + ") = " + (index - 1));
        }
        Checks.still(twelve, "byShare(12) = NONE", "byShare(13) = NONE",
                "byShare(2147483647) = NONE",
                "byShare(-1) = INVALID_ARGUMENT", "byShare(-2147483648) = INVALID_ARGUMENT");
        Checks.still(new Played(), "byShare(0) = NONE", "byShare(-1) = INVALID_ARGUMENT");
        Checks.still(PageBounds.inARow(1), "byShare(0) = 0", "byShare(1) = NONE");
    }

    private static void byShareRoundedDown() {
        Doc.says("Promise 21",
                "Returns a piece by the share that is seen of it: of all pieces, those");
        // 2 of 3 cells are 66 of a hundred, rounded down. Of piece 1 there are 66 of a hundred
        // seen, then 67, then 65.
        Played p = made("addPiece(-1, 0, 3, 1, 0) = 0", "addPiece(9, 1, 10, 10, 0) = 1",
                "addPiece(10, 2, 2, 2, 0) = 2", "piece(0, 7) = 2", "piece(1, 7) = 66");
        Checks.rows(p, "byShare(0) = 0", "byShare(1) = 1", "byShare(2) = 2", "setLayer(0, 1) = 0",
                "byShare(0) = 1", "byShare(1) = 0");
        Checks.rows(p, "removePiece(2) = 2", "addPiece(10, 2, 3, 1, 0) = 2", "piece(1, 7) = 67",
                "byShare(0) = 0", "byShare(1) = 1", "setLayer(0, 0) = 1", "byShare(0) = 0");
        Checks.rows(p, "removePiece(2) = 2", "addPiece(10, 2, 1, 5, 0) = 2", "piece(1, 7) = 65",
                "byShare(0) = 1", "byShare(1) = 0", "setLayer(0, 1) = 0", "byShare(0) = 1");
        // One cell of 144 is 0 of a hundred, as is nothing; 143 of 144 are 99.
        Played q = made("addPiece(15, 11, 12, 12, 0) = 0", "addPiece(-1, 0, 1, 1, 0) = 1",
                "byShare(0) = 0", "setLayer(0, 1) = 0", "byShare(0) = 1", "byShare(1) = 0");
        Checks.rows(q, "shift(0, -1, 0) = 1", "setLayer(0, 0) = 1", "byShare(0) = 1",
                "byShare(1) = 0");
        Checks.rows(made("addPiece(0, 0, 12, 12, 0) = 0", "addPiece(0, 0, 1, 1, 0) = 1",
                "setLayer(1, 0) = 1"), "byShare(0) = 1", "byShare(1) = 0", "setLayer(1, 1) = 0",
                "byShare(0) = 0", "byShare(1) = 1");
    }
}
