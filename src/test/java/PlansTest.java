/** Promises 22 to 24: leastShift, layerFor and worst. */
public final class PlansTest {
    public static void main(String[] args) {
        leastShiftForItself();
        leastShiftOrder();
        leastShiftAims();
        leastShiftBounds();
        leastShiftWrong();
        layerFor();
        worst();
        Checks.end(PlansTest.class);
    }

    private static void due(Played p, int piece, int aim, int cost, int dx, int dy) {
        String call = "22: leastShift(" + piece + ", " + aim + ", ";
        Checks.leaves(p, call + "0)", () -> p.leastShift(piece, aim, 0), cost);
        Checks.leaves(p, call + "1)", () -> p.leastShift(piece, aim, 1), dx);
        Checks.leaves(p, call + "2)", () -> p.leastShift(piece, aim, 2), dy);
    }

    private static void none(Played p, int piece, int aim) {
        due(p, piece, aim, Checks.NONE, Checks.NONE, Checks.NONE);
    }

    private static void leastShiftForItself() {
        Played p = Checks.with(Checks.at(-3, 2, 4, 4, 50), Checks.at(6, -2, 4, 4, 100),
                Checks.at(8, 6, 2, 2, 100));
        due(p, 0, 0, 1, 1, 0);
        due(p, 1, 0, 2, 0, 2);
        due(p, 2, 0, 0, 0, 0);
        due(p, 0, 1, 1, 1, 0);
        none(p, 0, 2);
        p.setShare(1, 50);
        due(p, 0, 2, 1, 1, 0);
        due(p, 1, 0, 0, 0, 0);
    }

    private static void leastShiftOrder() {
        // Wholly covered by one of the same size: any shift by 1 shows a third.
        Played p = Checks.with(Checks.at(5, 5, 3, 3, 33), Checks.at(5, 5, 3, 3, 0));
        due(p, 0, 0, 1, -1, 0);
        p.addPiece(2, 5, 3, 3, 0);
        due(p, 0, 0, 1, 0, -1);
        p.addPiece(5, 2, 3, 3, 0);
        due(p, 0, 0, 1, 0, 1);
        p.addPiece(5, 8, 3, 3, 0);
        due(p, 0, 0, 1, 1, 0);
        // Of (-1, -1), (-1, 1), (1, -1) and (1, 1) with two columns and rows covered.
        Played q = Checks.with(Checks.at(5, 5, 3, 3, 55), Checks.at(5, 5, 3, 3, 0));
        due(q, 0, 0, 2, -2, 0);
        q.setLayer(0, 1);
        due(q, 0, 0, 0, 0, 0);
        q.setLayer(0, 0);
        q.addPiece(2, 5, 3, 3, 0);
        q.addPiece(4, 4, 1, 1, 0);
        due(q, 0, 0, 2, 0, -2);
    }

    private static void leastShiftAims() {
        // Piece 1 lies outside; the nearest place for it is over piece 0.
        Played p = Checks.with(Checks.at(0, 0, 4, 1, 100), Checks.at(-2, 0, 4, 1, 75),
                Checks.at(0, 3, 1, 1, 100));
        due(p, 1, 0, 1, 1, 0);
        // Two are content before; with piece 1 over piece 0 two are so, too.
        due(p, 1, 1, 1, 1, 0);
        due(p, 1, 2, 2, 1, 1);
        // Two pieces lose at once: then aim 1 asks for more than aim 0.
        Played q = Checks.with(Checks.at(0, 0, 1, 1, 100), Checks.at(1, 0, 1, 1, 100),
                Checks.at(2, 0, 1, 1, 100), Checks.at(-2, 0, 4, 1, 75));
        Checks.due("22: content", q.count(3), 1);
        q.setPage(16, 4);
        due(q, 3, 0, 1, 1, 0);
        due(q, 3, 1, 1, 1, 0);
        Played r = Checks.with(Checks.at(1, 0, 1, 1, 100), Checks.at(2, 0, 1, 1, 100),
                Checks.at(-3, 0, 4, 1, 75));
        Checks.due("22: content", r.count(3), 2);
        due(r, 2, 0, 2, 2, 0);
        due(r, 2, 1, 3, 2, 1);
        due(r, 2, 2, 3, 2, 1);
        r.setShare(2, 25);
        due(r, 2, 0, 0, 0, 0);
        due(r, 2, 1, 0, 0, 0);
        due(r, 2, 2, 0, 0, 0);
        // A content piece may move for the sake of all, and another may keep all from it.
        Played s = Checks.with(Checks.at(5, 5, 2, 2, 100), Checks.at(6, 6, 2, 2, 0));
        due(s, 1, 0, 0, 0, 0);
        due(s, 1, 1, 0, 0, 0);
        due(s, 1, 2, 1, 0, 1);
        s.addPiece(-20, -20, 1, 1, 1);
        none(s, 1, 2);
        none(s, 2, 0);
    }

    private static void leastShiftBounds() {
        Played p = Checks.with(Checks.at(-8, 0, 1, 1, 1), Checks.at(-9, 0, 1, 1, 1),
                Checks.at(-4, -4, 1, 1, 1), Checks.at(23, 0, 1, 1, 1), Checks.at(24, 0, 1, 1, 1),
                Checks.at(5, 19, 1, 1, 1));
        due(p, 0, 0, 8, 8, 0);
        none(p, 1, 0);
        due(p, 2, 0, 8, 4, 4);
        due(p, 3, 0, 8, -8, 0);
        none(p, 4, 0);
        due(p, 5, 0, 8, 0, -8);
        // X from -20 to 40: the order's first shifts are not possible at the limit.
        Played q = Checks.with(Checks.at(-20, -20, 1, 1, 0), Checks.at(40, 40, 1, 1, 0));
        due(q, 0, 0, 0, 0, 0);
        due(q, 1, 2, 0, 0, 0);
        q.setShare(0, 1);
        none(q, 0, 0);
        q.setShare(1, 1);
        none(q, 1, 1);
    }

    private static void leastShiftWrong() {
        Played p = Checks.with(Checks.at(-20, 0, 1, 1, 100), Checks.at(0, 0, 1, 1, 0));
        int[][] wrong = {{-1, 0, 0}, {2, 0, 0}, {0, -1, 0}, {0, 3, 0}, {0, 0, -1}, {0, 0, 3},
            {Integer.MIN_VALUE, 0, 0}, {0, Integer.MAX_VALUE, 0}, {1, 0, Integer.MIN_VALUE}};
        for (int[] w : wrong) {
            Checks.refused(p, "22: leastShift" + java.util.Arrays.toString(w),
                    () -> p.leastShift(w[0], w[1], w[2]), Checks.INVALID);
        }
    }

    private static void layerFor() {
        Played p = Checks.with(Checks.at(2, 2, 2, 2, 100), Checks.at(2, 2, 2, 1, 100),
                Checks.at(3, 2, 1, 2, 50), Checks.at(9, 9, 2, 2, 100), Checks.at(-1, 9, 2, 2, 60));
        Checks.leaves(p, "23: above both", () -> p.layerFor(0), 2);
        Checks.leaves(p, "23: above two", () -> p.layerFor(1), 2);
        Checks.leaves(p, "23: below one", () -> p.layerFor(2), 1);
        Checks.leaves(p, "23: the lowest", () -> p.layerFor(3), 0);
        Checks.leaves(p, "23: outside", () -> p.layerFor(4), Checks.NONE);
        p.setLayer(2, 4);
        Checks.due("23: above it", p.layerFor(0), 4);
        Checks.due("23: lower than it lies", p.layerFor(2), 1);
        for (int wrong : new int[] {-1, 5, Integer.MIN_VALUE, Integer.MAX_VALUE}) {
            Checks.refused(p, "23: layerFor(" + wrong + ")", () -> p.layerFor(wrong),
                    Checks.INVALID);
        }
    }

    private static void worst() {
        Played p = new Played();
        Checks.leaves(p, "24: no pieces", p::worst, Checks.NONE);
        p.addPiece(0, 0, 4, 4, 100);
        Checks.leaves(p, "24: the only one", p::worst, 0);
        p.addPiece(1, 1, 1, 1, 100);
        // Without 0 one is content, without 1 one is so, too.
        Checks.leaves(p, "24: the smallest number", p::worst, 0);
        p.addPiece(0, 0, 3, 3, 100);
        // Without 2 only 1 is content; without 0 or 1 only 2 is.
        Checks.leaves(p, "24: the smallest number of three", p::worst, 0);
        p.setShare(0, 40);
        // Without 0: 2. Without 1: 0 and 2. Without 2: 0 and 1.
        Checks.leaves(p, "24: most of the others", p::worst, 1);
        Played q = Checks.with(Checks.at(0, 0, 1, 1, 100), Checks.at(2, 0, 1, 1, 100),
                Checks.at(4, 0, 1, 1, 100), Checks.at(0, 0, 5, 1, 100));
        Checks.leaves(q, "24: the one above all", q::worst, 3);
        // A piece that is not content itself counts for nothing when it is taken away.
        Played r = Checks.with(Checks.at(0, 0, 1, 1, 100), Checks.at(-20, 0, 1, 1, 100),
                Checks.at(2, 0, 1, 1, 100));
        Checks.leaves(r, "24: others, not itself", r::worst, 1);
    }
}
