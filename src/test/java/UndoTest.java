import java.util.ArrayList;
import java.util.List;
import java.util.function.Consumer;

/** Promise 13: undo, and the history that the actions of promises 2 to 12 make. */
public final class UndoTest {
    public static void main(String[] args) {
        emptyHistory();
        everyAction();
        noActions();
        fiveStates();
        undoThenAct();
        Checks.end(UndoTest.class);
    }

    private static Played sample() {
        Played p = Checks.with(Checks.at(4, 4, 3, 3, 100), Checks.at(5, 4, 3, 3, 80),
                Checks.at(-1, 0, 2, 6, 70));
        p.setFrame(1, 2);
        p.shift(2, 0, 1);
        return p;
    }

    private static void emptyHistory() {
        Played p = new Played();
        Checks.type(p, "page 5 5;");
        Checks.refused(p, "13: an empty history", p::undo, Checks.STATE);
    }

    private static void everyAction() {
        List<Consumer<Played>> actions = new ArrayList<>();
        actions.add(p -> p.setPage(5, 6));
        actions.add(p -> p.addPiece(1, 2, 3, 4, 5));
        actions.add(p -> p.removePiece(0));
        actions.add(p -> p.removePiece(2));
        actions.add(p -> p.setShare(0, 3));
        actions.add(p -> p.setFrame(1, 3));
        actions.add(p -> p.shift(1, 2, -3));
        actions.add(p -> p.setLayer(0, 2));
        actions.add(p -> p.setLayer(2, 0));
        actions.add(p -> p.arrange());
        actions.add(p -> Checks.loaded(p, "page 7 7; piece 1 2 3 4 5 frame 2;"));
        actions.add(p -> p.load());
        for (int i = 0; i < actions.size(); i++) {
            Played p = sample();
            p.undo();
            List<Integer> before = Checks.state(p);
            int states = p.count(8);
            actions.get(i).accept(p);
            String name = "13: action " + i;
            Checks.due(name + " is recorded", p.count(8), states + 1);
            Checks.type(p, "piece");
            int length = p.count(9);
            Checks.due(name + " is undone", p.undo(), states);
            Checks.hold(name + " leaves the state before it", Checks.state(p).equals(before));
            Checks.due(name + ": the text stays", p.count(9), length);
            Checks.due(name + ": the history", p.count(8), states);
        }
    }

    private static void noActions() {
        Played p = sample();
        p.undo();
        int states = p.count(8);
        p.append('x');
        p.load();
        p.clearText();
        p.leastShift(0, 0, 0);
        p.leastShift(1, 1, 1);
        p.leastShift(2, 2, 2);
        p.layerFor(0);
        p.worst();
        p.setShare(0, 101);
        p.shift(0, 60, 60);
        Checks.due("13: none of these is recorded", p.count(8), states);
    }

    private static void fiveStates() {
        Played p = new Played();
        for (int i = 0; i < 9; i++) {
            Checks.due("13: the history", p.count(8), Math.min(i, 5));
            p.addPiece(i, i, 1, 1, i);
        }
        for (int i = 4; i >= 0; i--) {
            Checks.due("13: undo", p.undo(), i);
            Checks.due("13: pieces", p.count(0), 4 + i);
            Checks.due("13: the latest piece", p.piece(3 + i, 4), 3 + i);
        }
        Checks.refused(p, "13: no more", p::undo, Checks.STATE);
        Checks.due("13: the pieces that stay", p.count(0), 4);
    }

    private static void undoThenAct() {
        Played p = new Played();
        for (int i = 0; i < 7; i++) {
            p.setPage(4 + i, 4);
        }
        p.undo();
        p.undo();
        Checks.due("13: W", p.count(1), 8);
        p.setPage(20, 20);
        p.shift(0, 0, 0);
        p.addPiece(0, 0, 1, 1, 1);
        Checks.due("13: the history", p.count(8), 5);
        p.setPage(21, 21);
        int[] columns = {20, 20, 8, 7, 6};
        int[] pieces = {1, 0, 0, 0, 0};
        for (int i = 0; i < 5; i++) {
            Checks.due("13: undo", p.undo(), 4 - i);
            Checks.due("13: W", p.count(1), columns[i]);
            Checks.due("13: pieces", p.count(0), pieces[i]);
        }
        Checks.due("13: no more", p.undo(), Checks.STATE);
    }
}
