/** The sentences of the document on the history and on errors: promise 13. */
final class HistoryBounds {
    private static final String UNDO = "Undo";
    private static final String ERRORS = "Errors";

    private HistoryBounds() {
    }

    static void run() {
        fiveStates();
        whatAStateHolds();
        whatIsRecorded();
        undo();
        constants();
        refusedCalls();
        firstErrors();
        lastCall();
    }

    private static void fiveStates() {
        Doc.says(UNDO, "A history of at most 5 states is kept; a state is everything but the text");
        Played p = new Played();
        for (int made = 1; made <= 12; made++) {
            Checks.rows(p, "setPage(" + (4 + made) + ", 4) = 0", "count(8) = " + Math.min(made, 5));
            // Now and then with a history that is not full, so that the places move on.
            if (made % 4 == 0) {
                Checks.rows(p, "undo() = " + Math.min(made - 1, 4), "setPage(4, 9) = 0");
            }
            Played back = p.again();
            for (int left = Math.min(made, 5) - 1; left >= 0; left--) {
                int before = Math.max(made - (Math.min(made, 5) - left), 0);
                int columns = before == 0 ? 16 : before % 4 == 0 ? 4 : 4 + before;
                Checks.rows(back, "undo() = " + left, "count(1) = " + columns,
                        "count(8) = " + left);
            }
            Checks.still(back, "undo() = ILLEGAL_STATE");
        }
    }

    private static void whatAStateHolds() {
        Doc.says(UNDO, "A history of at most 5 states is kept; a state is everything but the text");
        Played p = PageBounds.inARow(2);
        Checks.rows(p, "append(32) = 1", "shift(1, 0, 4) = 4", "append(32) = 2", "count(7) = 4",
                "undo() = 2", "count(7) = 0", "piece(1, 1) = 0", "count(9) = 2", "load() = 0",
                "count(9) = 0", "count(8) = 3", "undo() = 2", "count(9) = 0");
        Checks.rows(p, "setShare(0, 3) = 50", "setFrame(0, 2) = 0", "setLayer(0, 1) = 0",
                "undo() = 4", "piece(0, 6) = 0", "undo() = 3", "piece(0, 5) = 0", "undo() = 2",
                "piece(0, 4) = 50", "removePiece(0) = 1", "undo() = 2", "count(0) = 2",
                "piece(0, 0) = 0", "piece(1, 0) = 1");
    }

    private static void whatIsRecorded() {
        Doc.says(UNDO, "Every successful call of a method that is called an action records the");
        Played p = new Played();
        Checks.rows(p, "addPiece(-1, 0, 1, 1, 100) = 0");
        String[] actions = {"setPage(4, 4) = 0", "addPiece(0, 0, 1, 1, 0) = 1",
                "removePiece(0) = 0",
            "setShare(0, 0) = 100", "setFrame(0, 1) = 0", "shift(0, 1, 0) = 1",
            "setLayer(0, 0) = 0",
            "arrange() = 1", "load() = 0"};
        Checks.actions(p, actions);
        Checks.rows(p, "setFrame(0, 1) = 0", "setFrame(0, 2) = 1", "setFrame(0, 3) = 2");
        Checks.rows(p.again(), "count(8) = 4", "setFrame(0, 1) = 3", "count(8) = 5",
                "setFrame(0, 0) = 1", "count(8) = 5", "undo() = 4", "undo() = 3", "undo() = 2",
                "undo() = 1", "undo() = 0", "count(0) = 1", "piece(0, 5) = 0",
                "undo() = ILLEGAL_STATE");
        // A sixth state: each action drops the oldest one, and is undone like any other.
        Checks.rows(p, "setFrame(0, 0) = 3", "count(8) = 5");
        for (String action : actions) {
            Played full = p.again();
            Checks.rows(full, action, "count(8) = 5", "undo() = 4", "piece(0, 5) = 0", "undo() = 3",
                    "piece(0, 5) = 3", "undo() = 2", "piece(0, 5) = 2", "undo() = 1",
                    "piece(0, 5) = 1", "undo() = 0", "piece(0, 5) = 0", "count(0) = 1",
                    "undo() = ILLEGAL_STATE");
        }
        // Calls that are no actions record nothing, and neither does what is refused.
        Checks.rows(p.again(), "undo() = 4", "append(32) = 1", "clearText() = 1", "count(0) = 1",
                "piece(0, 0) = -1", "seen(0, 0) = -1", "inLayer(0) = 0", "covering(0, 0, 0) = NONE",
                "edge(0, -1) = 0", "hides(0, 0) = INVALID_ARGUMENT", "byShare(0) = 0",
                "leastShift(0, 0, 0) = 1", "layerFor(0) = NONE", "worst() = 0",
                "setPage(3, 4) = INVALID_ARGUMENT", "count(8) = 4", "undo() = 3");
    }

    private static void undo() {
        Doc.says(UNDO, "undo() removes the latest state from the history and restores it.");
        Doc.says("Promise 13", "Removes the latest state from the history and restores it.");
        Played p = PageBounds.inARow(3);
        Checks.rows(p, "undo() = 2", "count(0) = 2", "addPiece(9, 9, 1, 1, 1) = 2", "undo() = 2",
                "count(0) = 2", "undo() = 1", "undo() = 0", "count(0) = 0");
        Doc.says("Promise 13", "Returns the number of states that are left in the history;");
        Checks.still(p, "undo() = ILLEGAL_STATE");
        Checks.still(new Played(), "undo() = ILLEGAL_STATE");
        Played full = PageBounds.inARow(12);
        Checks.rows(full, "undo() = 4", "undo() = 3", "undo() = 2", "undo() = 1", "undo() = 0");
        Checks.still(full, "undo() = ILLEGAL_STATE", "count(0) = 7");
        Checks.rows(full, "undo() = ILLEGAL_STATE", "removePiece(0) = 6", "undo() = 0",
                "count(0) = 7");
    }

    private static void constants() {
        Doc.says(ERRORS, "The constants: `INVALID_ARGUMENT = -101`:");
        Checks.due("INVALID_ARGUMENT", LaidPieces.INVALID_ARGUMENT, -101);
        Checks.due("piece(0, 0)", new Played().piece(0, 0), -101);
        Doc.says(ERRORS, "`ILLEGAL_STATE = -102`:");
        Checks.due("ILLEGAL_STATE", LaidPieces.ILLEGAL_STATE, -102);
        Checks.due("undo()", new Played().undo(), -102);
        Doc.says(ERRORS, "`CAPACITY_EXCEEDED = -103`:");
        Checks.due("CAPACITY_EXCEEDED", LaidPieces.CAPACITY_EXCEEDED, -103);
        Checks.due("addPiece(0, 0, 1, 1, 0)", PageBounds.inARow(12).addPiece(0, 0, 1, 1, 0), -103);
        Doc.says(ERRORS, "`NONE = -109`:");
        Checks.due("NONE", LaidPieces.NONE, -109);
        Checks.due("worst()", new Played().worst(), -109);
    }

    private static void refusedCalls() {
        Doc.says(ERRORS, "A call that returns an error code changes nothing.");
        // With a full page, a full history, a full text and a cost; and behind an undo().
        Played p = PageBounds.inARow(12);
        Checks.rows(p, "shift(3, 2, 5) = 7", "setFrame(4, 1) = 0", "setLayer(0, 7) = 0");
        Checks.type(p, "piece 1 1 1 1 1;" + " ".repeat(104));
        String[] refused = {"setPage(25, 4) = INVALID_ARGUMENT",
            "addPiece(0, 0, 1, 1, 101) = INVALID_ARGUMENT",
            "addPiece(0, 0, 1, 1, 1) = CAPACITY_EXCEEDED", "removePiece(12) = INVALID_ARGUMENT",
            "setShare(0, 101) = INVALID_ARGUMENT", "setFrame(0, 4) = INVALID_ARGUMENT",
            "shift(0, 0, 61) = INVALID_ARGUMENT", "shift(0, 50, 0) = ILLEGAL_STATE",
            "setLayer(0, 12) = INVALID_ARGUMENT", "arrange() = ILLEGAL_STATE",
            "append(0) = INVALID_ARGUMENT", "append(1) = CAPACITY_EXCEEDED", "load() = -1000",
            "count(10) = INVALID_ARGUMENT", "piece(12, 0) = INVALID_ARGUMENT",
            "seen(16, 0) = INVALID_ARGUMENT", "inLayer(12) = INVALID_ARGUMENT",
            "covering(0, 12, 0) = INVALID_ARGUMENT", "covering(0, 0, 1) = NONE",
            "edge(0, 0) = INVALID_ARGUMENT", "hides(0, 0) = INVALID_ARGUMENT",
            "byShare(-1) = INVALID_ARGUMENT", "byShare(12) = NONE",
            "leastShift(0, 3, 0) = INVALID_ARGUMENT", "layerFor(12) = INVALID_ARGUMENT"};
        Checks.rows(p, "count(8) = 5", "count(9) = 120", "count(7) = 7");
        Checks.still(p, refused);
        Checks.rows(p, "undo() = 4");
        Checks.still(p, refused);
        Checks.still(new Played(), "undo() = ILLEGAL_STATE");
    }

    private static void firstErrors() {
        Doc.says(ERRORS, "If several error conditions apply, the method returns the one that its");
        Played p = PageBounds.inARow(12);
        Checks.rows(p, "shift(11, -31, 12) = 43", "setShare(11, 100) = 50");
        Checks.type(p, " ".repeat(120));
        Checks.still(p, "addPiece(41, 0, 1, 1, 0) = INVALID_ARGUMENT",
                "addPiece(40, 0, 1, 1, 0) = CAPACITY_EXCEEDED",
                "shift(11, -61, 0) = INVALID_ARGUMENT", "shift(12, -1, 0) = INVALID_ARGUMENT",
                "shift(11, -1, 0) = ILLEGAL_STATE", "append(256) = INVALID_ARGUMENT",
                "append(255) = CAPACITY_EXCEEDED", "covering(16, 0, 12) = INVALID_ARGUMENT",
                "covering(15, -1, 12) = INVALID_ARGUMENT",
                "covering(15, 11, -1) = INVALID_ARGUMENT",
                "covering(15, 11, 0) = NONE", "byShare(-1) = INVALID_ARGUMENT",
                "byShare(12) = NONE",
                "leastShift(11, 3, 0) = INVALID_ARGUMENT",
                "leastShift(11, 0, 3) = INVALID_ARGUMENT",
                "leastShift(11, -1, 0) = INVALID_ARGUMENT", "leastShift(11, 0, 0) = NONE",
                "layerFor(12) = INVALID_ARGUMENT", "layerFor(11) = NONE");
    }

    private static void lastCall() {
        Doc.says("What it is", "An object is used for at most 512 calls after it has been made;");
        LaidPieces p = new LaidPieces();
        Checks.due("addPiece(0, 0, 1, 1, 0)", p.addPiece(-20, -20, 1, 1, 0), 0);
        for (int call = 2; call <= Played.CALLS; call++) {
            int step = call % 2 == 0 ? 60 : -60;
            boolean looks = call == Played.CALLS;
            Checks.due("call " + call, looks ? p.count(7) : p.shift(0, step, step),
                    looks ? 510 * 120 : 120);
        }
    }
}
