/** Promises 1 to 9: a new object, the page, its pieces, their layers and shifts. */
public final class PageAndPiecesTest {
    public static void main(String[] args) {
        newObject();
        setPage();
        addPiece();
        removePiece();
        setShare();
        setFrame();
        shift();
        setLayer();
        arrange();
        arrangeChoosesAmongPieces();
        arrangeEnds();
        Checks.end(PageAndPiecesTest.class);
    }

    private static void newObject() {
        Played p = new Played();
        int[] counts = {0, 16, 12, 0, 0, 0, 192, 0, 0, 0};
        for (int what = 0; what < counts.length; what++) {
            Checks.due("1: count(" + what + ")", p.count(what), counts[what]);
        }
        Checks.due("1: seen", p.seen(15, 11), -1);
        Checks.due("1: piece", p.piece(0, 0), Checks.INVALID);
        Checks.due("1: inLayer", p.inLayer(0), Checks.INVALID);
        Checks.due("1: undo", p.undo(), Checks.STATE);
        Checks.due("1: constants", LaidPieces.INVALID_ARGUMENT, -101);
        Checks.due("1: constants", LaidPieces.ILLEGAL_STATE, -102);
        Checks.due("1: constants", LaidPieces.CAPACITY_EXCEEDED, -103);
        Checks.due("1: constants", LaidPieces.NONE, -109);
        Played other = new Played();
        other.addPiece(0, 0, 1, 1, 0);
        Checks.due("1: objects have states of their own", p.count(0), 0);
    }

    private static void setPage() {
        Played p = Checks.with(Checks.at(0, 0, 5, 5, 100), Checks.at(20, 20, 4, 4, 100),
                Checks.at(4, 4, 1, 1, 0));
        Checks.due("2: setPage(24, 24)", p.setPage(24, 24), 2);
        Checks.due("2: setPage(4, 4)", p.setPage(4, 4), 1);
        Checks.due("2: W", p.count(1), 4);
        Checks.due("2: H", p.count(2), 4);
        Checks.due("2: the pieces stay", p.piece(1, 0), 20);
        Checks.due("2: the pieces stay", p.piece(1, 1), 20);
        Checks.due("2: setPage(5, 24)", p.setPage(5, 24), 1);
        Checks.due("2: W", p.count(1), 5);
        Checks.due("2: H", p.count(2), 24);
        Checks.due("2: the same page is an action too", p.setPage(5, 24), 1);
        Checks.due("2: undo", p.undo(), 4);
        Checks.due("2: undo", p.undo(), 3);
        Checks.due("2: W", p.count(1), 4);
        Checks.due("2: H", p.count(2), 4);
        int[][] refused = {{3, 10}, {25, 10}, {10, 3}, {10, 25}, {-1, 4}, {4, 0},
            {Integer.MIN_VALUE, 4}, {4, Integer.MAX_VALUE}};
        for (int[] r : refused) {
            Checks.refused(p, "2: setPage(" + r[0] + ", " + r[1] + ")",
                    () -> p.setPage(r[0], r[1]), Checks.INVALID);
        }
    }

    private static void addPiece() {
        Played p = new Played();
        Checks.due("3: the lowest values", p.addPiece(-20, -20, 1, 1, 0), 0);
        Checks.due("3: the highest values", p.addPiece(40, 40, 12, 12, 100), 1);
        Checks.due("3: an ordinary one", p.addPiece(2, 3, 4, 5, 60), 2);
        int[] due = {2, 3, 4, 5, 60, 0, 2};
        for (int what = 0; what < due.length; what++) {
            Checks.due("3: piece(2, " + what + ")", p.piece(2, what), due[what]);
        }
        Checks.due("3: on top", p.addPiece(2, 3, 1, 1, 0), 3);
        Checks.due("3: on top", p.seen(2, 3), 3);
        Checks.due("3: an action", p.count(8), 4);
        p.setFrame(3, 2);
        p.removePiece(3);
        Checks.due("3: behind a removed one", p.addPiece(0, 0, 2, 2, 1), 3);
        Checks.due("3: no frame is left over", p.piece(3, 5), 0);
        int[][] refused = {{-21, 0, 1, 1, 0}, {41, 0, 1, 1, 0}, {0, -21, 1, 1, 0},
            {0, 41, 1, 1, 0}, {0, 0, 0, 1, 0}, {0, 0, 13, 1, 0}, {0, 0, 1, 0, 0},
            {0, 0, 1, 13, 0}, {0, 0, 1, 1, -1}, {0, 0, 1, 1, 101},
            {Integer.MIN_VALUE, 0, 1, 1, 0}, {0, Integer.MAX_VALUE, 1, 1, 0}};
        refuseAll(p, refused);
        while (p.count(0) < 12) {
            p.addPiece(1, 1, 1, 1, 1);
        }
        Checks.refused(p, "3: a 13th", () -> p.addPiece(0, 0, 1, 1, 0), Checks.FULL);
        refuseAll(p, refused);
        p.removePiece(0);
        Checks.due("3: room again", p.addPiece(0, 0, 1, 1, 0), 11);
    }

    private static void refuseAll(Played p, int[][] refused) {
        for (int[] r : refused) {
            Checks.refused(p, "3: addPiece" + java.util.Arrays.toString(r),
                    () -> p.addPiece(r[0], r[1], r[2], r[3], r[4]), Checks.INVALID);
        }
    }

    private static void removePiece() {
        Played p = new Played();
        for (int i = 0; i < 4; i++) {
            p.addPiece(i, 2 * i, 3 + i, 4 + i, 10 * i);
            p.setFrame(i, i);
        }
        p.setLayer(0, 3);
        p.setLayer(3, 0);
        // From the lowest layer on: 3, 1, 2, 0.
        Checks.due("4: removePiece(1)", p.removePiece(1), 3);
        int[][] due = {{0, 0, 3, 4, 0, 0, 2}, {2, 4, 5, 6, 20, 2, 1}, {3, 6, 6, 7, 30, 3, 0}};
        for (int piece = 0; piece < due.length; piece++) {
            for (int what = 0; what <= 6; what++) {
                Checks.due("4: piece(" + piece + ", " + what + ")", p.piece(piece, what),
                        due[piece][what]);
            }
        }
        Checks.due("4: layer 0", p.inLayer(0), 2);
        Checks.due("4: layer 1", p.inLayer(1), 1);
        Checks.due("4: layer 2", p.inLayer(2), 0);
        for (int wrong : new int[] {-1, 3, 12, Integer.MIN_VALUE, Integer.MAX_VALUE}) {
            Checks.refused(p, "4: removePiece(" + wrong + ")", () -> p.removePiece(wrong),
                    Checks.INVALID);
        }
        Checks.due("4: the last number", p.removePiece(2), 2);
        Checks.due("4: the first number", p.removePiece(0), 1);
        Checks.due("4: what is left", p.piece(0, 0), 2);
        Checks.due("4: the only one", p.removePiece(0), 0);
        Checks.refused(p, "4: no piece", () -> p.removePiece(0), Checks.INVALID);
        Checks.due("4: undo", p.undo(), 4);
        Checks.due("4: what is back", p.piece(0, 3), 6);
    }

    private static void setShare() {
        Played p = Checks.with(Checks.at(0, 0, 2, 5, 30), Checks.at(0, 0, 1, 5, 70));
        Checks.due("5: setShare(0, 50)", p.setShare(0, 50), 30);
        Checks.due("5: just content", p.piece(0, 8), 1);
        Checks.due("5: setShare(0, 51)", p.setShare(0, 51), 50);
        Checks.due("5: not content", p.piece(0, 8), 0);
        Checks.due("5: setShare(0, 0)", p.setShare(0, 0), 51);
        Checks.due("5: setShare(0, 100)", p.setShare(0, 100), 0);
        Checks.due("5: the same is an action too", p.setShare(0, 100), 100);
        Checks.due("5: the others keep theirs", p.piece(1, 4), 70);
        Checks.due("5: undo", p.undo(), 4);
        Checks.due("5: undo", p.undo(), 3);
        Checks.due("5: the share is back", p.piece(0, 4), 0);
        int[][] refused = {{0, -1}, {0, 101}, {-1, 0}, {2, 0}, {12, 0},
            {Integer.MIN_VALUE, 0}, {0, Integer.MAX_VALUE}};
        for (int[] r : refused) {
            Checks.refused(p, "5: setShare(" + r[0] + ", " + r[1] + ")",
                    () -> p.setShare(r[0], r[1]), Checks.INVALID);
        }
    }

    private static void setFrame() {
        Played p = Checks.with(Checks.at(0, 0, 2, 5, 30), Checks.at(5, 5, 1, 5, 70));
        Checks.due("6: setFrame(1, 3)", p.setFrame(1, 3), 0);
        Checks.due("6: setFrame(1, 1)", p.setFrame(1, 1), 3);
        Checks.due("6: the frame", p.piece(1, 5), 1);
        Checks.due("6: the others keep theirs", p.piece(0, 5), 0);
        Checks.due("6: the same is an action too", p.setFrame(1, 1), 1);
        Checks.due("6: setFrame(1, 0)", p.setFrame(1, 0), 1);
        Checks.due("6: undo", p.undo(), 4);
        Checks.due("6: undo", p.undo(), 3);
        Checks.due("6: undo", p.undo(), 2);
        Checks.due("6: the frame is back", p.piece(1, 5), 3);
        int[][] refused = {{0, -1}, {0, 4}, {-1, 0}, {2, 0}, {Integer.MIN_VALUE, 0},
            {0, Integer.MAX_VALUE}};
        for (int[] r : refused) {
            Checks.refused(p, "6: setFrame(" + r[0] + ", " + r[1] + ")",
                    () -> p.setFrame(r[0], r[1]), Checks.INVALID);
        }
    }

    private static void shift() {
        Played p = Checks.with(Checks.at(0, 0, 2, 5, 30), Checks.at(-20, 40, 1, 5, 70));
        Checks.due("7: shift(0, 3, -4)", p.shift(0, 3, -4), 7);
        Checks.due("7: X", p.piece(0, 0), 3);
        Checks.due("7: Y", p.piece(0, 1), -4);
        Checks.due("7: the others stay", p.piece(1, 0), -20);
        Checks.due("7: the farthest", p.shift(1, 60, -60), 120);
        Checks.due("7: X", p.piece(1, 0), 40);
        Checks.due("7: Y", p.piece(1, 1), -20);
        Checks.due("7: the cost of all", p.count(7), 127);
        Checks.due("7: back", p.shift(1, -60, 60), 120);
        Checks.due("7: the cost of all", p.count(7), 247);
        Checks.due("7: shift(0, 0, 0) is an action too", p.shift(0, 0, 0), 0);
        Checks.due("7: the history", p.count(8), 5);
        int[][] impossible = {{0, -24, 0}, {0, 38, 0}, {0, 0, -17}, {0, 0, 45}, {1, -1, 0},
            {1, 0, 1}, {1, 60, 60}};
        for (int[] r : impossible) {
            Checks.refused(p, "7: shift" + java.util.Arrays.toString(r),
                    () -> p.shift(r[0], r[1], r[2]), Checks.STATE);
        }
        int[][] refused = {{0, -61, 0}, {0, 61, 0}, {0, 0, -61}, {0, 0, 61}, {-1, 0, 0},
            {2, 0, 0}, {1, 61, 60}, {0, Integer.MIN_VALUE, 0}, {0, 0, Integer.MIN_VALUE},
            {0, Integer.MAX_VALUE, 0}, {0, 0, Integer.MAX_VALUE}};
        for (int[] r : refused) {
            Checks.refused(p, "7: shift" + java.util.Arrays.toString(r),
                    () -> p.shift(r[0], r[1], r[2]), Checks.INVALID);
        }
        Checks.due("7: to the last column", p.shift(0, 37, 0), 37);
        Checks.due("7: undo", p.undo(), 4);
        Checks.due("7: the cost is back", p.count(7), 247);
        Checks.due("7: X is back", p.piece(0, 0), 3);
    }

    private static void setLayer() {
        Played p = Checks.with(Checks.at(0, 0, 2, 2, 0), Checks.at(0, 0, 2, 2, 0),
                Checks.at(0, 0, 2, 2, 0), Checks.at(0, 0, 2, 2, 0));
        Checks.due("8: setLayer(0, 2)", p.setLayer(0, 2), 0);
        order(p, 1, 2, 0, 3);
        Checks.due("8: setLayer(3, 1)", p.setLayer(3, 1), 3);
        order(p, 1, 3, 2, 0);
        Checks.due("8: to the top", p.setLayer(1, 3), 0);
        order(p, 3, 2, 0, 1);
        Checks.due("8: seen", p.seen(0, 0), 1);
        Checks.due("8: to the bottom", p.setLayer(1, 0), 3);
        order(p, 1, 3, 2, 0);
        Checks.due("8: the same is an action too", p.setLayer(2, 2), 2);
        order(p, 1, 3, 2, 0);
        Checks.due("8: undo", p.undo(), 4);
        order(p, 1, 3, 2, 0);
        Checks.due("8: undo", p.undo(), 3);
        order(p, 3, 2, 0, 1);
        int[][] refused = {{0, -1}, {0, 4}, {-1, 0}, {4, 0}, {0, Integer.MIN_VALUE},
            {Integer.MAX_VALUE, 0}};
        for (int[] r : refused) {
            Checks.refused(p, "8: setLayer(" + r[0] + ", " + r[1] + ")",
                    () -> p.setLayer(r[0], r[1]), Checks.INVALID);
        }
    }

    private static void order(Played p, int... pieces) {
        for (int layer = 0; layer < pieces.length; layer++) {
            Checks.due("8: inLayer(" + layer + ")", p.inLayer(layer), pieces[layer]);
            Checks.due("8: piece(" + pieces[layer] + ", 6)", p.piece(pieces[layer], 6), layer);
        }
    }

    private static void arrange() {
        Played empty = new Played();
        Checks.refused(empty, "9: no pieces", empty::arrange, Checks.STATE);
        Played content = Checks.with(Checks.at(0, 0, 2, 2, 100));
        Checks.refused(content, "9: all are content", content::arrange, Checks.STATE);
        Played p = Checks.with(Checks.at(4, 4, 3, 3, 100), Checks.at(5, 4, 3, 3, 100));
        Checks.due("9: one shift", p.arrange(), 1);
        Checks.due("9: X", p.piece(0, 0), 2);
        Checks.due("9: Y", p.piece(0, 1), 4);
        Checks.due("9: the cost", p.count(7), 2);
        Checks.due("9: all are content", p.count(3), 2);
        Checks.due("9: one action", p.count(8), 3);
        Checks.due("9: undo", p.undo(), 2);
        Checks.due("9: X is back", p.piece(0, 0), 4);
        Checks.due("9: the cost is back", p.count(7), 0);
    }

    private static void arrangeChoosesAmongPieces() {
        // Piece 1 lies outside by one column, piece 0 by two rows: 1 is the cheaper one.
        Played p = Checks.with(Checks.at(3, -2, 2, 2, 100), Checks.at(-1, 5, 2, 2, 100));
        Checks.due("9: two shifts", p.arrange(), 2);
        Checks.due("9: the cost", p.count(7), 3);
        // The same in the other order, and with a step less between their costs.
        Played o = Checks.with(Checks.at(-1, 5, 2, 2, 100), Checks.at(3, -2, 2, 2, 100),
                Checks.at(8, -2, 2, 2, 50), Checks.at(12, -3, 1, 1, 1));
        o.setShare(2, 0);
        Checks.due("9: three shifts", o.arrange(), 3);
        Checks.due("9: the cost", o.count(7), 6);
        o.setShare(2, 1);
        Checks.due("9: as the first look", o.arrange(), 1);
        Checks.due("9: Y", o.piece(2, 1), -1);
        Checks.due("9: as the first look", o.arrange(), Checks.STATE);
        o.shift(3, 0, -1);
        Checks.due("9: behind a shift, as the first look", o.arrange(), 1);
        o.removePiece(3);
        Checks.due("9: without it", o.arrange(), Checks.STATE);
        // 0 could move by 2, but 1 can by 1, and with that 0 is content, too.
        Played s = Checks.with(Checks.at(6, 5, 1, 1, 100), Checks.at(4, 4, 3, 2, 100),
                Checks.at(6, 4, 2, 1, 100), Checks.at(6, 6, 1, 1, 0), Checks.at(7, 5, 1, 1, 0));
        Checks.due("9: the cost for 0", s.leastShift(0, 1, 0), 2);
        Checks.due("9: the cost for 1", s.leastShift(1, 1, 0), 1);
        Checks.due("9: the cheaper one, though its number is larger", s.arrange(), 1);
        Checks.due("9: the cost", s.count(7), 1);
        Checks.due("9: X of 0", s.piece(0, 0), 6);
        Checks.due("9: X of 1", s.piece(1, 0), 3);
        // Both are hidden by 2. 0 moves first; 1 then hides it at the same cost, with as many
        // pieces content as before, and 0 moves on.
        Played q = Checks.with(Checks.at(5, 5, 2, 2, 50), Checks.at(5, 5, 2, 2, 50),
                Checks.at(5, 5, 2, 2, 100));
        Checks.due("9: the smaller number first", q.arrange(), 3);
        Checks.due("9: X of 0", q.piece(0, 0), 3);
        Checks.due("9: X of 1", q.piece(1, 0), 4);
        Checks.due("9: Y of 1", q.piece(1, 1), 5);
        // A shift that takes another piece its share is none for aim 1.
        Played r = Checks.with(Checks.at(0, 0, 2, 4, 100), Checks.at(-2, 0, 2, 4, 50));
        r.setPage(4, 4);
        Checks.due("9: over the other one, not farther", r.arrange(), 2);
        Checks.due("9: all are content", r.count(3), 2);
        Checks.due("9: X of 0", r.piece(0, 0), 1);
        Checks.due("9: X of 1", r.piece(1, 0), -1);
    }

    private static void arrangeEnds() {
        Played far = Checks.with(Checks.at(-20, 0, 2, 2, 50));
        Checks.due("9: nothing to be done is an action too", far.arrange(), 0);
        Checks.due("9: the history", far.count(8), 2);
        // Every piece but the highest one is hidden at first; 12 shifts at the most are made.
        Played p = new Played();
        p.setPage(24, 24);
        for (int i = 0; i < 12; i++) {
            p.addPiece(10, 10, 4, 4, 30);
        }
        int shifts = p.arrange();
        Checks.hold("9: at most 12 shifts", shifts >= 0 && shifts <= 12);
        PlainModel model = new PlainModel();
        model.setPage(24, 24);
        for (int i = 0; i < 12; i++) {
            model.addPiece(10, 10, 4, 4, 30);
        }
        Checks.due("9: many shifts", shifts, model.arrange());
        for (int i = 0; i < 12; i++) {
            Checks.due("9: X of " + i, p.piece(i, 0), model.piece(i, 0));
            Checks.due("9: Y of " + i, p.piece(i, 1), model.piece(i, 1));
        }
    }
}
