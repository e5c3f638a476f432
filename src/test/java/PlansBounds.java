/** The sentences of the document on least shifts and on plans: promises 22 to 24. */
final class PlansBounds {
    private static final String MOVES = "Moves";

    private PlansBounds() {
    }

    static void run() {
        orderOfShifts();
        costOfAtMostEight();
        aims();
        leastShift();
        layerFor();
        worst();
        worstOfTwelve();
    }

    private static Played made(String... rows) {
        Played p = new Played();
        Checks.rows(p, rows);
        return p;
    }

    /** Checks the least shift of a piece: three looks, none of which changes anything. */
    private static void least(Played p, int piece, int aim, int dx, int dy) {
        String call = "leastShift(" + piece + ", " + aim + ", ";
        Checks.still(p, call + "0) = " + (Math.abs(dx) + Math.abs(dy)), call + "1) = " + dx,
                call + "2) = " + dy);
    }

    private static void none(Played p, int piece, int aim) {
        String call = "leastShift(" + piece + ", " + aim + ", ";
        Checks.still(p, call + "0) = NONE", call + "1) = NONE", call + "2) = NONE");
    }

    private static void orderOfShifts() {
        Doc.says(MOVES,
                "Shifts are in this order: the one with the smaller cost first, of several");
        // One cell at (8, 6) is hidden; then the places that are nearest to it, one by one.
        Played p = made("addPiece(8, 6, 1, 1, 100) = 0");
        int[][] order = {{0, 0}, {-1, 0}, {0, -1}, {0, 1}, {1, 0}, {-2, 0}, {-1, -1}, {-1, 1},
            {0, -2}, {0, 2}, {1, -1}, {1, 1}};
        for (int i = 0; i < order.length; i++) {
            for (int aim = 0; aim <= 2; aim++) {
                least(p, 0, aim, order[i][0], order[i][1]);
            }
            Checks.rows(p, "addPiece(" + (8 + order[i][0]) + ", " + (6 + order[i][1])
                    + ", 1, 1, 0) = " + (i < 11 ? Integer.toString(i + 1) : "CAPACITY_EXCEEDED"));
        }
        // On a page of four columns that are full around it: the nearest free row is below, as
        // near above as below, directly below, and 8 away on both sides.
        Played q = made("setPage(4, 24) = 0", "addPiece(0, 12, 1, 1, 100) = 0",
                "addPiece(-1, 5, 12, 8, 0) = 1", "addPiece(0, 13, 12, 6, 0) = 2");
        least(q, 0, 0, 0, 7);
        Checks.rows(q, "shift(1, 0, 1) = 1");
        least(q, 0, 0, 0, -7);
        Checks.rows(q, "shift(1, 0, -1) = 1", "shift(2, 0, 1) = 1");
        least(q, 0, 0, 0, 1);
        Checks.rows(q, "addPiece(0, 13, 12, 1, 0) = 3");
        least(q, 0, 0, 0, -8);
        Checks.rows(q, "addPiece(0, 4, 12, 1, 0) = 4");
        least(q, 0, 0, 0, 8);
        Checks.rows(q, "addPiece(0, 20, 12, 1, 0) = 5");
        none(q, 0, 0);
    }

    private static void costOfAtMostEight() {
        Doc.says(MOVES, "The least shift of a piece for an aim is the first shift with a cost of");
        least(made("addPiece(0, 0, 1, 1, 100) = 0"), 0, 0, 0, 0);
        least(made("addPiece(-20, 0, 1, 1, 0) = 0"), 0, 0, 0, 0);
        // From beyond each side and corner of the page, 8 or 9 away from it.
        int[][] places = {{-8, 5, 8, 0}, {23, 5, -8, 0}, {5, -8, 0, 8}, {5, 19, 0, -8},
            {-4, -4, 4, 4}, {-7, -1, 7, 1}, {-1, 18, 1, -7}, {22, -1, -7, 1}, {18, 16, -3, -5}};
        for (int[] at : places) {
            Played p = made("addPiece(" + at[0] + ", " + at[1] + ", 1, 1, 100) = 0");
            for (int aim = 0; aim <= 2; aim++) {
                least(p, 0, aim, at[2], at[3]);
            }
            Checks.rows(p, "shift(0, " + -Integer.signum(at[2]) + ", "
                    + (at[2] == 0 ? -Integer.signum(at[3]) : 0) + ") = 1");
            for (int aim = 0; aim <= 2; aim++) {
                none(p, 0, aim);
            }
        }
        none(made("addPiece(-20, -20, 1, 1, 1) = 0"), 0, 0);
        none(made("addPiece(40, 40, 12, 12, 1) = 0"), 0, 0);
        // A piece with share 0 needs no shift, wherever it is.
        least(made("addPiece(40, 40, 12, 12, 0) = 0"), 0, 2, 0, 0);
    }

    private static void aims() {
        Doc.says(MOVES, "The aims are: 0 the piece is content; 1 the piece is content, and at");
        // Piece 2 comes over 0 and 1 at the least cost, over one of them for 1 more.
        Played p = made("addPiece(1, 0, 1, 1, 100) = 0", "addPiece(2, 0, 1, 1, 100) = 1",
                "addPiece(-3, 0, 4, 1, 75) = 2", "count(3) = 2");
        least(p, 2, 0, 2, 0);
        least(p, 2, 1, 2, 1);
        least(p, 2, 2, 2, 1);
        // With as many pieces content as before: 0 is no longer, 1 is instead of it.
        Played q = made("addPiece(0, 0, 1, 1, 100) = 0", "addPiece(-1, 0, 1, 1, 100) = 1",
                "count(3) = 1");
        least(q, 1, 0, 1, 0);
        least(q, 1, 1, 1, 0);
        least(q, 1, 2, 1, 1);
        // A piece that is content: aims 0 and 1 are reached as it lies, the aim 2 by its leaving.
        Played r = made("addPiece(5, 5, 2, 2, 100) = 0", "addPiece(6, 6, 2, 2, 0) = 1");
        least(r, 1, 0, 0, 0);
        least(r, 1, 1, 0, 0);
        least(r, 1, 2, 0, 1);
        // Another piece that is not content keeps the aim 2 from being reached, not aim 1.
        Checks.rows(r, "addPiece(-20, -20, 1, 1, 1) = 2");
        least(r, 0, 1, -1, 0);
        none(r, 0, 2);
        none(r, 1, 2);
        none(r, 2, 2);
        // All are content.
        Played s = made("addPiece(5, 5, 2, 2, 100) = 0", "addPiece(7, 5, 2, 2, 100) = 1");
        least(s, 0, 2, 0, 0);
        least(s, 1, 2, 0, 0);
    }

    private static void leastShift() {
        Doc.says("Promise 22", "Returns the least shift of a piece.");
        least(made("addPiece(-2, -3, 2, 2, 100) = 0"), 0, 0, 2, 3);
        Doc.says("Promise 22", "`piece`: a piece");
        Checks.range(PageBounds.inARow(1), "leastShift(%, 0, 0)", 0, 0, 0, 0);
        Checks.range(PageBounds.inARow(12), "leastShift(%, 2, 0)", 0, 0, 11, 0);
        Played p = made("addPiece(-3, 0, 1, 1, 100) = 0");
        Doc.says("Promise 22", "`aim`: 0 to 2");
        Checks.range(p, "leastShift(0, %, 0)", 0, 3, 2, 3);
        Doc.says("Promise 22", "`what`: 0 its cost, 1 dx, 2 dy");
        Checks.range(p, "leastShift(0, 0, %)", 0, 3, 2, 0);
        Checks.rows(p, "leastShift(0, 1, 1) = 3");
        Doc.says("Promise 22",
                "Returns the number; INVALID_ARGUMENT if an argument is out of range;");
        Checks.rows(p, "shift(0, -6, 0) = 6");
        Checks.still(p, "leastShift(0, 0, 0) = NONE", "leastShift(0, 1, 1) = NONE",
                "leastShift(0, 2, 2) = NONE", "leastShift(0, 0, 3) = INVALID_ARGUMENT",
                "leastShift(0, 3, 0) = INVALID_ARGUMENT", "leastShift(1, 0, 0) = INVALID_ARGUMENT",
                "leastShift(0, -1, 0) = INVALID_ARGUMENT",
                "leastShift(0, 0, -1) = INVALID_ARGUMENT",
                "leastShift(-1, 3, 3) = INVALID_ARGUMENT");
    }

    private static void layerFor() {
        Doc.says("Promise 23",
                "Finds the lowest layer with which a piece is content, if it was put");
        Played p = made("addPiece(2, 2, 2, 2, 100) = 0", "addPiece(2, 2, 1, 1, 0) = 1",
                "addPiece(3, 3, 1, 1, 0) = 2", "addPiece(9, 9, 1, 1, 0) = 3");
        Checks.still(p, "layerFor(0) = 2", "layerFor(1) = 0", "layerFor(3) = 0");
        Checks.rows(p.again(), "setShare(0, 75) = 100", "layerFor(0) = 1", "setShare(0, 50) = 75",
                "layerFor(0) = 0", "setShare(0, 76) = 50", "layerFor(0) = 2", "setLayer(0, 3) = 0",
                "layerFor(0) = 2", "setLayer(1, 3) = 0", "layerFor(0) = 3");
        Doc.says("Promise 23", "`piece`: a piece");
        Checks.range(PageBounds.inARow(1), "layerFor(%)", 0, 0, 0, 0);
        Checks.range(PageBounds.inARow(12), "layerFor(%)", 0, 0, 11, 0);
        Doc.says("Promise 23",
                "Returns the layer; INVALID_ARGUMENT if there is no such piece; NONE");
        Played twelve = made("addPiece(5, 5, 1, 1, 100) = 0");
        for (int i = 1; i < 12; i++) {
            Checks.rows(twelve, "addPiece(5, 5, 1, 1, 100) = " + i, "layerFor(0) = " + i,
                    "layerFor(" + i + ") = " + i);
        }
        Checks.rows(made("addPiece(-1, 0, 2, 1, 50) = 0"), "layerFor(0) = 0",
                "setShare(0, 51) = 50",
                "layerFor(0) = NONE", "layerFor(1) = INVALID_ARGUMENT", "shift(0, 1, 0) = 1",
                "layerFor(0) = 0");
    }

    private static void worst() {
        Doc.says("Promise 24",
                "Finds the piece without which most of the others would be content.");
        // Without 2 both others are content, without one of them only 2 is.
        Checks.still(made("addPiece(0, 0, 1, 1, 100) = 0", "addPiece(2, 0, 1, 1, 100) = 1",
                "addPiece(0, 0, 3, 1, 100) = 2"), "worst() = 2");
        // A piece that is not content itself: without 1 two of the others are content.
        Checks.still(made("addPiece(0, 0, 1, 1, 100) = 0", "addPiece(-20, 0, 1, 1, 100) = 1",
                "addPiece(2, 0, 1, 1, 100) = 2"), "worst() = 1");
        Doc.says("Promise 24",
                "Returns the piece, of several the one with the smallest number; NONE");
        Checks.still(new Played(), "worst() = NONE");
        Checks.still(PageBounds.inARow(1), "worst() = 0");
        Checks.still(made("addPiece(-20, 0, 1, 1, 100) = 0"), "worst() = 0");
        Checks.still(PageBounds.inARow(12), "worst() = 0");
        Checks.still(made("addPiece(-20, 0, 1, 1, 100) = 0", "addPiece(-20, 0, 1, 1, 100) = 1"),
                "worst() = 0");
        Checks.rows(PageBounds.inARow(1), "removePiece(0) = 0", "worst() = NONE", "undo() = 1",
                "worst() = 0");
    }

    private static void worstOfTwelve() {
        Doc.says("Promise 24",
                "Finds the piece without which most of the others would be content.");
        // The last one lies over all others, but leaves them what they ask for; when two of them
        // ask for more, it is the worst.
        Played p = new Played();
        for (int i = 0; i < 11; i++) {
            Checks.rows(p, "addPiece(" + i + ", 0, 1, 2, 50) = " + i);
        }
        Checks.rows(p, "addPiece(0, 0, 11, 1, 100) = 11");
        Checks.still(p, "worst() = 0");
        Checks.rows(p, "setShare(4, 51) = 50");
        Checks.still(p, "worst() = 4");
        Checks.rows(p, "setShare(7, 51) = 50");
        Checks.still(p, "worst() = 11");
    }
}
