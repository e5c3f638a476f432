/** Promises 14 to 21: count, piece, seen, inLayer, covering, edge, hides and byShare. */
public final class LookingTest {
    public static void main(String[] args) {
        count();
        countFrames();
        pieceProperties();
        pieceParts();
        pieceStrips();
        pieceOutside();
        seen();
        inLayer();
        covering();
        edge();
        hides();
        byShare();
        Checks.end(LookingTest.class);
    }

    private static void count() {
        Played p = Checks.with(Checks.at(0, 0, 2, 2, 50), Checks.at(1, 0, 2, 2, 100),
                Checks.at(2, 0, 2, 2, 100), Checks.at(2, 0, 2, 3, 0), Checks.at(-9, 0, 2, 2, 0));
        p.shift(4, 1, 2);
        p.append('x');
        int[] due = {5, 16, 12, 3, 2, 0, 192 - 10, 3, 5, 1};
        for (int what = 0; what < due.length; what++) {
            int asked = what;
            Checks.leaves(p, "14: count(" + what + ")", () -> p.count(asked), due[what]);
        }
        for (int wrong : new int[] {-1, 10, Integer.MIN_VALUE, Integer.MAX_VALUE}) {
            Checks.refused(p, "14: count(" + wrong + ")", () -> p.count(wrong), Checks.INVALID);
        }
        p.undo();
        Checks.due("14: the cost before the shift", p.count(7), 0);
        p.setPage(4, 4);
        Checks.due("14: the page behind pieces", p.count(6), 16 - 10);
        p.addPiece(-2, -2, 12, 12, 0);
        Checks.due("14: no page is left", p.count(6), 0);
        Checks.due("14: nothing is seen of five", p.count(4), 5);
    }

    private static void countFrames() {
        Played p = Checks.with(Checks.at(0, 0, 4, 4, 0), Checks.at(5, 0, 4, 4, 0),
                Checks.at(6, 1, 2, 2, 0));
        Checks.due("14: no frames", p.count(5), 0);
        p.setFrame(0, 1);
        p.setFrame(1, 1);
        Checks.due("14: both frames are whole", p.count(5), 2);
        p.setFrame(1, 2);
        Checks.due("14: one is cut", p.count(5), 1);
        p.shift(0, -1, 0);
        Checks.due("14: one is cut by the border", p.count(5), 0);
        p.setFrame(2, 3);
        Checks.due("14: a frame wider than its piece", p.count(5), 1);
    }

    private static void pieceProperties() {
        Played p = Checks.with(Checks.at(1, 2, 5, 4, 35), Checks.at(4, 3, 12, 1, 100));
        p.setFrame(0, 2);
        // Of piece 0 the two cells below piece 1 in row 3 are hidden.
        int[] due = {1, 2, 5, 4, 35, 2, 0, 18, 1, 1, 18, 4 + 2, 0};
        for (int what = 0; what < due.length; what++) {
            int asked = what;
            Checks.leaves(p, "15: piece(0, " + what + ")", () -> p.piece(0, asked), due[what]);
        }
        int[][] wrong = {{-1, 0}, {2, 0}, {0, -1}, {0, 13}, {12, 6}, {Integer.MIN_VALUE, 0},
            {Integer.MAX_VALUE, 0}, {0, Integer.MIN_VALUE}, {0, Integer.MAX_VALUE}};
        for (int[] w : wrong) {
            Checks.refused(p, "15: piece(" + w[0] + ", " + w[1] + ")",
                    () -> p.piece(w[0], w[1]), Checks.INVALID);
        }
        Played large = Checks.with(Checks.at(0, 0, 12, 12, 100), Checks.at(5, 5, 1, 1, 0));
        Checks.due("15: one cell of 144 is missing", large.piece(0, 8), 0);
        large.setShare(0, 99);
        Checks.due("15: 143 of 144 cells are 99 of 100", large.piece(0, 8), 1);
        p.setShare(0, 90);
        Checks.due("15: just content", p.piece(0, 8), 1);
        p.setShare(0, 91);
        Checks.due("15: not content", p.piece(0, 8), 0);
    }

    private static void pieceParts() {
        Played p = Checks.with(Checks.at(1, 1, 5, 5, 0), Checks.at(2, 0, 1, 12, 0),
                Checks.at(0, 3, 12, 1, 0));
        // Piece 0 is left in four parts: 2, 6, 2 and 6 cells.
        Checks.due("15: parts", p.piece(0, 9), 4);
        Checks.due("15: the largest", p.piece(0, 10), 6);
        Checks.due("15: parts of a piece that is cut in two", p.piece(1, 9), 2);
        Checks.due("15: the largest", p.piece(1, 10), 8);
        Checks.due("15: one part", p.piece(2, 9), 1);
        p.addPiece(0, 0, 12, 12, 0);
        Checks.due("15: nothing is seen", p.piece(0, 9), 0);
        Checks.due("15: nothing is seen", p.piece(0, 10), 0);
        Played corners = Checks.with(Checks.at(2, 2, 2, 2, 0), Checks.at(2, 2, 1, 1, 0),
                Checks.at(3, 3, 1, 1, 0));
        Checks.due("15: corners do not connect", corners.piece(0, 9), 2);
        Checks.due("15: corners do not connect", corners.piece(0, 10), 1);
        Played ring = Checks.with(Checks.at(0, 0, 12, 12, 0), Checks.at(1, 1, 10, 10, 0),
                Checks.at(3, 0, 1, 2, 0));
        Checks.due("15: a ring that is cut once", ring.piece(0, 9), 1);
        Checks.due("15: its cells", ring.piece(0, 10), 43);
        Played above = Checks.with(Checks.at(0, 0, 9, 1, 0), Checks.at(4, 0, 1, 1, 0));
        Checks.due("15: parts in the uppermost row", above.piece(0, 9), 2);
        above.setPage(4, 4);
        Checks.due("15: one of them outside", above.piece(0, 9), 1);
        // Left, below and right of a hole with a gap above: two arms hang on a row below.
        Played arms = Checks.with(Checks.at(2, 2, 5, 5, 0), Checks.at(3, 2, 3, 4, 0));
        Checks.due("15: two arms", arms.piece(0, 9), 1);
        Checks.due("15: their cells", arms.piece(0, 10), 13);
        // The same, hanging on a column to the right.
        Played teeth = Checks.with(Checks.at(2, 2, 5, 5, 0), Checks.at(2, 3, 4, 3, 0));
        Checks.due("15: two teeth", teeth.piece(0, 9), 1);
        Checks.due("15: their cells", teeth.piece(0, 10), 13);
        Played gap = Checks.with(Checks.at(2, 2, 5, 3, 0), Checks.at(4, 2, 1, 3, 0),
                Checks.at(2, 3, 5, 1, 0));
        Checks.due("15: one cell apart is not connected", gap.piece(0, 9), 4);
        Checks.due("15: the largest", gap.piece(0, 10), 2);
        Played hook = Checks.with(Checks.at(2, 2, 2, 3, 0), Checks.at(2, 2, 1, 2, 0));
        Checks.due("15: a hook to the left", hook.piece(0, 9), 1);
        Checks.due("15: its cells", hook.piece(0, 10), 4);
        Played spiral = Checks.with(Checks.at(0, 0, 12, 12, 0), Checks.at(0, 1, 11, 1, 0),
                Checks.at(10, 2, 1, 9, 0), Checks.at(1, 10, 9, 1, 0), Checks.at(1, 3, 1, 7, 0),
                Checks.at(2, 3, 7, 1, 0), Checks.at(8, 4, 1, 5, 0), Checks.at(3, 8, 5, 1, 0),
                Checks.at(3, 5, 1, 3, 0), Checks.at(4, 5, 3, 1, 0), Checks.at(6, 6, 1, 1, 0));
        Checks.due("15: a spiral is one part", spiral.piece(0, 9), 1);
        Checks.due("15: its cells", spiral.piece(0, 10), 144 - 60);
        Played comb = Checks.with(Checks.at(0, 0, 11, 4, 0));
        for (int x = 1; x < 11; x += 2) {
            comb.addPiece(x, 0, 1, 3, 0);
        }
        Checks.due("15: a comb hangs together below", comb.piece(0, 9), 1);
        Checks.due("15: its cells", comb.piece(0, 10), 29);
        comb.addPiece(0, 3, 11, 1, 0);
        Checks.due("15: its teeth alone", comb.piece(0, 9), 6);
        Checks.due("15: a tooth", comb.piece(0, 10), 3);
    }

    private static void pieceStrips() {
        int[][] cuts = {{2, 3, 1}, {3, 2, 2}, {6, 3, 4}, {3, 6, 8}, {2, 2, 3}, {6, 2, 6},
            {6, 6, 12}, {2, 6, 9}, {4, 4, 0}};
        for (int[] cut : cuts) {
            Played p = Checks.with(Checks.at(2, 2, 5, 5, 0),
                    Checks.at(cut[0], cut[1], 1, 1, 0));
            Checks.due("15: no frame, no strip", p.piece(0, 11), 0);
            p.setFrame(0, 1);
            Checks.due("15: strips", p.piece(0, 11), cut[2]);
            p.setFrame(0, 3);
            boolean inner = cut[0] == 4 && cut[1] == 4;
            Checks.hold("15: a wide frame", !inner || p.piece(0, 11) == 15);
        }
        Played p = Checks.with(Checks.at(-1, 0, 5, 5, 0), Checks.at(12, 9, 4, 4, 0),
                Checks.at(6, -2, 4, 6, 0), Checks.at(13, 3, 4, 4, 0), Checks.at(20, 20, 3, 3, 0),
                Checks.at(1, 6, 1, 5, 0), Checks.at(1, 10, 1, 1, 0));
        int[] due = {1 + 2 + 8, 1 + 4 + 8, 1 + 2 + 4, 2 + 4 + 8, 15, 1 + 4 + 8, 0};
        for (int piece = 0; piece < due.length; piece++) {
            p.setFrame(piece, 2);
            Checks.due("15: strips cut by the border of " + piece, p.piece(piece, 11),
                    due[piece]);
        }
        p.setFrame(5, 3);
        Checks.due("15: three rows of five", p.piece(5, 11), 1 + 4 + 8);
        p.shift(6, 0, -1);
        Checks.due("15: rows 3 of 5, from both sides", p.piece(5, 11), 1 + 4 + 8);
        p.shift(6, 0, -1);
        Checks.due("15: the middle one", p.piece(5, 11), 15);
    }

    private static void pieceOutside() {
        int[][] places = {{0, 0, 0}, {-1, 0, 4}, {0, -2, 6}, {-2, -3, 11}, {-3, 2, 12},
            {15, 0, 8}, {16, 0, 12}, {14, 11, 10}, {0, 10, 6}, {-20, 40, 12}, {40, -20, 12},
            {13, 8, 0}};
        for (int[] place : places) {
            Played p = Checks.with(Checks.at(place[0], place[1], 3, 4, 0));
            Checks.due("15: outside at " + place[0] + ", " + place[1], p.piece(0, 12), place[2]);
            Checks.due("15: seen at " + place[0] + ", " + place[1], p.piece(0, 7),
                    12 - place[2]);
        }
        Played p = Checks.with(Checks.at(3, 3, 3, 4, 0), Checks.at(3, 3, 3, 4, 0));
        Checks.due("15: hidden cells are not outside", p.piece(0, 12), 0);
        p.setPage(4, 24);
        Checks.due("15: outside of a smaller page", p.piece(0, 12), 8);
    }

    private static void seen() {
        Played p = Checks.with(Checks.at(-1, -1, 3, 3, 0), Checks.at(1, 1, 20, 2, 0));
        p.addPiece(1, 1, 12, 2, 0);
        Checks.leaves(p, "16: the first cell", () -> p.seen(0, 0), 0);
        Checks.due("16: the upper one", p.seen(1, 1), 1);
        Checks.due("16: the page", p.seen(2, 0), -1);
        Checks.due("16: the last cell", p.seen(15, 11), -1);
        p.setLayer(0, 1);
        Checks.due("16: the other one is above now", p.seen(1, 1), 0);
        p.removePiece(0);
        Checks.due("16: the piece below", p.seen(1, 1), 0);
        int[][] wrong = {{-1, 0}, {16, 0}, {0, -1}, {0, 12}, {Integer.MIN_VALUE, 0},
            {0, Integer.MAX_VALUE}};
        for (int[] w : wrong) {
            Checks.refused(p, "16: seen(" + w[0] + ", " + w[1] + ")", () -> p.seen(w[0], w[1]),
                    Checks.INVALID);
            Checks.refused(p, "18: covering(" + w[0] + ", " + w[1] + ", 0)",
                    () -> p.covering(w[0], w[1], 0), Checks.INVALID);
        }
        p.setPage(24, 24);
        Checks.due("16: the last cell of the largest page", p.seen(23, 23), -1);
        p.addPiece(23, 23, 1, 1, 0);
        Checks.due("16: the last cell of the largest page", p.seen(23, 23), 1);
        Checks.due("16: beside it", p.seen(22, 23), -1);
    }

    private static void inLayer() {
        Played p = Checks.with(Checks.at(0, 0, 1, 1, 0), Checks.at(0, 0, 1, 1, 0),
                Checks.at(0, 0, 1, 1, 0));
        p.setLayer(2, 0);
        Checks.leaves(p, "17: inLayer(0)", () -> p.inLayer(0), 2);
        Checks.due("17: inLayer(1)", p.inLayer(1), 0);
        Checks.due("17: inLayer(2)", p.inLayer(2), 1);
        for (int wrong : new int[] {-1, 3, 12, Integer.MIN_VALUE, Integer.MAX_VALUE}) {
            Checks.refused(p, "17: inLayer(" + wrong + ")", () -> p.inLayer(wrong),
                    Checks.INVALID);
        }
    }

    private static void covering() {
        Played p = Checks.with(Checks.at(0, 0, 4, 4, 0), Checks.at(2, 2, 4, 4, 0),
                Checks.at(3, 0, 1, 12, 0), Checks.at(8, 8, 1, 1, 0));
        p.setLayer(0, 2);
        // From the lowest layer on: 1, 2, 0, 3.
        int[] due = {0, 2, 1, Checks.NONE, Checks.NONE};
        for (int index = 0; index < due.length; index++) {
            int asked = index;
            Checks.leaves(p, "18: covering(3, 3, " + index + ")", () -> p.covering(3, 3, asked),
                    due[index]);
        }
        Checks.due("18: the page alone", p.covering(15, 11, 0), Checks.NONE);
        Checks.due("18: far too many", p.covering(3, 3, Integer.MAX_VALUE), Checks.NONE);
        Checks.refused(p, "18: index -1", () -> p.covering(3, 3, -1), Checks.INVALID);
        Checks.refused(p, "18: index -1 on the page", () -> p.covering(15, 11, -1),
                Checks.INVALID);
        Checks.refused(p, "18: a wrong cell goes ahead of NONE", () -> p.covering(16, 0, 9),
                Checks.INVALID);
    }

    private static void edge() {
        Played p = Checks.with(Checks.at(0, 0, 3, 3, 0), Checks.at(3, 0, 2, 2, 0),
                Checks.at(1, 1, 1, 1, 0), Checks.at(14, 9, 5, 5, 0));
        Checks.leaves(p, "19: two side by side", () -> p.edge(0, 1), 2);
        Checks.due("19: from the other side", p.edge(1, 0), 2);
        Checks.due("19: around a hole", p.edge(0, 2), 4);
        Checks.due("19: in the hole", p.edge(2, 0), 4);
        Checks.due("19: far from one another", p.edge(0, 3), 0);
        Checks.due("19: the page", p.edge(0, -1), 4);
        Checks.due("19: the border", p.edge(0, -2), 6);
        Checks.due("19: the border above alone", p.edge(1, -2), 2);
        Checks.due("19: no border", p.edge(2, -2), 0);
        Checks.due("19: the far corner", p.edge(3, -2), 5);
        Checks.due("19: the page at the far corner", p.edge(3, -1), 5);
        int[][] wrong = {{0, 0}, {-1, 0}, {4, 0}, {0, 4}, {0, -3}, {-1, -1}, {-2, -2}, {4, -1},
            {4, 4}, {0, Integer.MIN_VALUE}, {0, Integer.MAX_VALUE}, {Integer.MIN_VALUE, 0}};
        for (int[] w : wrong) {
            Checks.refused(p, "19: edge(" + w[0] + ", " + w[1] + ")", () -> p.edge(w[0], w[1]),
                    Checks.INVALID);
        }
        Played thin = Checks.with(Checks.at(0, 2, 1, 3, 0), Checks.at(15, 2, 1, 3, 0),
                Checks.at(2, 0, 3, 1, 0), Checks.at(2, 11, 3, 1, 0), Checks.at(1, 2, 1, 3, 0),
                Checks.at(14, 2, 1, 3, 0), Checks.at(2, 1, 3, 1, 0), Checks.at(2, 10, 3, 1, 0));
        for (int i = 0; i < 8; i++) {
            Checks.due("19: the border of piece " + i, thin.edge(i, -2), i < 4 ? 3 : 0);
        }
        Played all = Checks.with(Checks.at(-1, -1, 12, 12, 0));
        all.setPage(4, 6);
        Checks.due("19: the whole border", all.edge(0, -2), 20);
        Checks.due("19: no page", all.edge(0, -1), 0);
        Played wide = Checks.with(Checks.at(12, 12, 12, 12, 0));
        wide.setPage(24, 24);
        Checks.due("19: the border of the largest page", wide.edge(0, -2), 24);
        Checks.due("19: its page", wide.edge(0, -1), 24);
    }

    private static void hides() {
        Played p = Checks.with(Checks.at(-1, 0, 4, 4, 0), Checks.at(0, 2, 4, 4, 0),
                Checks.at(-2, 3, 4, 1, 0));
        Checks.leaves(p, "20: the cells that another one hides too do not count",
                () -> p.hides(1, 0), 4);
        Checks.due("20: cells outside do not count", p.hides(2, 0), 2);
        Played q = Checks.with(Checks.at(0, 0, 4, 1, 0), Checks.at(1, 0, 2, 2, 0));
        Checks.due("20: in the uppermost row, as the first look", q.hides(1, 0), 2);
        q.shift(1, 2, 0);
        Checks.due("20: behind a shift, as the first look", q.hides(1, 0), 1);
        Checks.due("20: hides(2, 1)", p.hides(2, 1), 2);
        Checks.due("20: a lower one hides nothing", p.hides(0, 1), 0);
        int[][] wrong = {{0, 0}, {-1, 0}, {3, 0}, {0, -1}, {0, 3}, {Integer.MIN_VALUE, 0},
            {0, Integer.MAX_VALUE}, {-1, -1}};
        for (int[] w : wrong) {
            Checks.refused(p, "20: hides(" + w[0] + ", " + w[1] + ")",
                    () -> p.hides(w[0], w[1]), Checks.INVALID);
        }
    }

    private static void byShare() {
        Played none = new Played();
        Checks.due("21: no pieces", none.byShare(0), Checks.NONE);
        Checks.due("21: no pieces", none.byShare(-1), Checks.INVALID);
        // Seen: 0 a half, 1 all, 2 all, 3 none of it (outside), 4 two thirds.
        Played p = Checks.with(Checks.at(0, 0, 4, 4, 0), Checks.at(0, 2, 4, 4, 0),
                Checks.at(8, 8, 1, 1, 0), Checks.at(-9, 0, 1, 1, 0), Checks.at(14, 0, 3, 1, 0));
        int[] due = {3, 0, 4, 1, 2, Checks.NONE, Checks.NONE};
        for (int index = 0; index < due.length; index++) {
            int asked = index;
            Checks.leaves(p, "21: byShare(" + index + ")", () -> p.byShare(asked), due[index]);
        }
        p.setLayer(2, 0);
        Checks.due("21: the lower layer first", p.byShare(3), 2);
        Checks.due("21: the higher layer behind", p.byShare(4), 1);
        Checks.refused(p, "21: index -1", () -> p.byShare(-1), Checks.INVALID);
        Checks.due("21: far too many", p.byShare(Integer.MAX_VALUE), Checks.NONE);
        Checks.refused(p, "21: the least index", () -> p.byShare(Integer.MIN_VALUE),
                Checks.INVALID);
        // 99 of 100 and all of 5, then 1 of 100 and none of 5.
        Played r = Checks.with(Checks.at(0, 0, 5, 1, 0), Checks.at(2, 1, 10, 10, 0));
        r.addPiece(5, 5, 1, 1, 0);
        Checks.due("21: nearly all, as the first look", r.byShare(0), 1);
        r.setLayer(1, 0);
        r.setLayer(0, 0);
        Checks.due("21: nearly all, in a higher layer", r.byShare(0), 1);
        r.shift(2, 9, 6);
        Checks.due("21: all of all, as the first look", r.byShare(0), 0);
        r.shift(0, -5, 0);
        r.shift(1, 13, 10);
        Checks.due("21: one of 100 comes behind none", r.byShare(1), 1);
        r.setLayer(1, 0);
        Checks.due("21: one of 100 comes behind none", r.byShare(1), 1);
        Checks.due("21: the one cell", r.piece(1, 7), 1);
        Played t = Checks.with(Checks.at(-1, 0, 3, 1, 0), Checks.at(9, 1, 10, 10, 0),
                Checks.at(10, 2, 2, 2, 0));
        Checks.due("21: 2 of 3 and 66 of 100", t.byShare(0), 0);
        t.setLayer(0, 1);
        Checks.due("21: 66 of 100 and 2 of 3", t.byShare(0), 1);
        // 66 2/3 and 66 1/9 of a hundred are both 66: the lower layer is first.
        Played q = Checks.with(Checks.at(14, 0, 3, 1, 0), Checks.at(13, 11, 9, 1, 0));
        q.setPage(19, 12);
        q.shift(0, 3, 0);
        Checks.due("21: rounded down", q.byShare(0), 0);
        q.setLayer(0, 1);
        Checks.due("21: rounded down", q.byShare(0), 1);
        Checks.due("21: the seen cells", q.piece(0, 7) * 10 + q.piece(1, 7), 26);
    }
}
