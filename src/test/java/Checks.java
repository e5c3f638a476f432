import java.util.ArrayList;
import java.util.List;

/** What the tests have in common: answers that are due, and all that an object shows. */
final class Checks {
    static final int INVALID = LaidPieces.INVALID_ARGUMENT;
    static final int STATE = LaidPieces.ILLEGAL_STATE;
    static final int FULL = LaidPieces.CAPACITY_EXCEEDED;
    static final int NONE = LaidPieces.NONE;

    private static final int SHOWN_FAULTS = 40;
    private static int checks = 0;
    private static int wrong = 0;

    private Checks() {
    }

    static void due(String call, long got, long want) {
        checks++;
        if (got != want) {
            wrong++;
            if (wrong <= SHOWN_FAULTS) {
                System.out.println("  " + call + " answered " + got + ", due is " + want);
            }
        }
    }

    /** Checks that a call answers with an error code and changes nothing that can be seen. */
    static void refused(LaidPieces pieces, String call, java.util.function.IntSupplier made,
            int code) {
        List<Integer> before = everything(pieces);
        due(call, made.getAsInt(), code);
        due(call + " changes nothing", everything(pieces).equals(before) ? 1 : 0, 1);
    }

    /** Checks that a call answers and leaves all that can be seen as it is. */
    static void leaves(LaidPieces pieces, String call, java.util.function.IntSupplier made,
            int want) {
        refused(pieces, call, made, want);
    }

    static void hold(String what, boolean holds) {
        due(what, holds ? 1 : 0, 1);
    }

    /** All that an object shows without plans. */
    static List<Integer> everything(LaidPieces pieces) {
        List<Integer> shown = new ArrayList<>();
        for (int what = 0; what <= 9; what++) {
            shown.add(pieces.count(what));
        }
        for (int piece = 0; piece < pieces.count(0); piece++) {
            for (int what = 0; what <= 12; what++) {
                shown.add(pieces.piece(piece, what));
            }
            shown.add(pieces.inLayer(piece));
            shown.add(pieces.byShare(piece));
        }
        for (int row = 0; row < pieces.count(2); row++) {
            for (int column = 0; column < pieces.count(1); column++) {
                shown.add(pieces.seen(column, row));
            }
        }
        return shown;
    }

    /** What undo() brings back: all that is shown, without the history and the text. */
    static List<Integer> state(LaidPieces pieces) {
        List<Integer> shown = everything(pieces);
        shown.set(8, 0);
        shown.set(9, 0);
        return shown;
    }

    static LaidPieces with(int[]... rectangles) {
        LaidPieces pieces = new LaidPieces();
        for (int[] r : rectangles) {
            pieces.addPiece(r[0], r[1], r[2], r[3], r[4]);
        }
        return pieces;
    }

    static int[] at(int x, int y, int width, int height, int share) {
        return new int[] {x, y, width, height, share};
    }

    static void type(LaidPieces pieces, String text) {
        for (int i = 0; i < text.length(); i++) {
            pieces.append(text.charAt(i));
        }
    }

    /** Reads a text; one with an error is taken away behind it. */
    static int loaded(LaidPieces pieces, String text) {
        type(pieces, text);
        int answer = pieces.load();
        if (answer < 0) {
            due("the length of the text kept behind \"" + text + "\"",
                    pieces.clearText(), text.length());
        }
        return answer;
    }

    static void end(Class<?> test) {
        System.out.println(test.getSimpleName() + ": " + checks + " checks, " + wrong + " wrong");
        if (wrong != 0) {
            System.exit(1);
        }
    }
}
