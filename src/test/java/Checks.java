import java.util.ArrayList;
import java.util.List;
import java.util.function.IntSupplier;

/** What the tests have in common: answers that are due, and all that an object shows. */
final class Checks {
    static final int INVALID = LaidPieces.INVALID_ARGUMENT;
    static final int STATE = LaidPieces.ILLEGAL_STATE;
    static final int FULL = LaidPieces.CAPACITY_EXCEEDED;
    static final int NONE = LaidPieces.NONE;

    private static final int SHOWN_FAULTS = 40;
    private static int checks = 0;
    private static int wrong = 0;
    private static String about = "";

    private Checks() {
    }

    /** Tells what the checks that follow are about, so that a fault can tell it. */
    static void about(String subject) {
        about = subject;
    }

    static void due(String call, long got, long want) {
        checks++;
        if (got != want) {
            wrong++;
            if (wrong <= SHOWN_FAULTS) {
                System.out.println("  " + (about.isEmpty() ? "" : about + ": ") + call
                        + " answered " + got + ", due is " + want);
            }
        }
    }

    static void hold(String what, boolean holds) {
        due(what, holds ? 1 : 0, 1);
    }

    // ---- calls that are written out with the answer that is due: "shift(0, 1, -2) = 3"

    /** Makes calls, one behind the other. */
    static void rows(Played pieces, String... rows) {
        for (String row : rows) {
            due(call(row), pieces.call(call(row)), answer(row));
        }
    }

    /** Makes calls that must change nothing: looks, plans, and what is refused. */
    static void still(Played pieces, String... rows) {
        List<Integer> before = everything(pieces);
        for (String row : rows) {
            Played behind = pieces.again();
            behind.keepLooks(true);
            rows(behind, row);
            hold(call(row) + " changes nothing", everything(behind).equals(before));
        }
    }

    /** Makes calls, each on an object of its own, that must record the state before them. */
    static void actions(Played pieces, String... rows) {
        List<Integer> before = state(pieces);
        int states = Math.min(pieces.count(8) + 1, 5);
        for (String row : rows) {
            Played behind = pieces.again();
            rows(behind, row);
            due("count(8) behind " + call(row), behind.count(8), states);
            due("undo() behind " + call(row), behind.undo(), states - 1);
            hold("undo() behind " + call(row) + " restores", state(behind).equals(before));
        }
    }

    /**
     * A call with % for an argument that may be from low to high, with the answers that are due
     * for these two; below and above the argument is refused.
     */
    static void range(Played pieces, String call, int low, int dueLow, int high, int dueHigh) {
        rows(pieces.again(), with(call, low) + " = " + dueLow);
        rows(pieces.again(), with(call, high) + " = " + dueHigh);
        for (int beyond : new int[] {low - 1, high + 1, Integer.MIN_VALUE, Integer.MAX_VALUE}) {
            still(pieces, with(call, beyond) + " = INVALID_ARGUMENT");
        }
    }

    private static String with(String call, int argument) {
        return call.replace("%", Integer.toString(argument));
    }

    private static String call(String row) {
        return row.substring(0, row.indexOf(" = "));
    }

    private static int answer(String row) {
        String answer = row.substring(row.indexOf(" = ") + 3);
        switch (answer) {
            case "INVALID_ARGUMENT": return INVALID;
            case "ILLEGAL_STATE": return STATE;
            case "CAPACITY_EXCEEDED": return FULL;
            case "NONE": return NONE;
            default: return Integer.parseInt(answer);
        }
    }

    // ---- calls of the tests' own

    /** Checks that a call answers with an error code and changes nothing that can be seen. */
    static void refused(Played pieces, String call, IntSupplier made, int code) {
        List<Integer> before = everything(pieces);
        pieces.keepLooks(true);
        due(call, made.getAsInt(), code);
        pieces.keepLooks(false);
        hold(call + " changes nothing", everything(pieces).equals(before));
    }

    /** Checks that a call answers and leaves all that can be seen as it is. */
    static void leaves(Played pieces, String call, IntSupplier made, int want) {
        refused(pieces, call, made, want);
    }

    /** All that an object shows without plans, and what its text and its history hold. */
    static List<Integer> everything(Played pieces) {
        List<Integer> all = shown(pieces.again());
        Played read = pieces.again();
        all.add(read.load());
        all.addAll(shown(read));
        Played back = pieces.again();
        for (int states = back.undo(); states >= 0; states = back.undo()) {
            all.add(states);
            all.addAll(shown(back));
        }
        return all;
    }

    private static List<Integer> shown(Played pieces) {
        List<Integer> shown = new ArrayList<>();
        for (int what = 0; what <= 9; what++) {
            shown.add(pieces.count(what));
        }
        int number = pieces.count(0);
        for (int piece = 0; piece < number; piece++) {
            for (int what = 0; what <= 12; what++) {
                shown.add(pieces.piece(piece, what));
            }
            shown.add(pieces.inLayer(piece));
            shown.add(pieces.byShare(piece));
        }
        return shown;
    }

    /** What undo() brings back: all that is shown, without the history and the text. */
    static List<Integer> state(Played pieces) {
        List<Integer> shown = shown(pieces.again());
        shown.set(8, 0);
        shown.set(9, 0);
        return shown;
    }

    static Played with(int[]... rectangles) {
        Played pieces = new Played();
        for (int[] r : rectangles) {
            pieces.addPiece(r[0], r[1], r[2], r[3], r[4]);
        }
        return pieces;
    }

    static int[] at(int x, int y, int width, int height, int share) {
        return new int[] {x, y, width, height, share};
    }

    static void type(Played pieces, String text) {
        for (int i = 0; i < text.length(); i++) {
            pieces.append(text.charAt(i));
        }
    }

    /** Reads a text; one with an error is taken away behind it. */
    static int loaded(Played pieces, String text) {
        type(pieces, text);
        int answer = pieces.load();
        if (answer < 0) {
            due("the length of the text kept behind \"" + text + "\"",
                    pieces.clearText(), text.length());
        }
        return answer;
    }

    static void end(Class<?> test) {
        System.out.println(test.getSimpleName() + ": " + checks + " checks, " + wrong + " wrong");
        if (wrong != 0) {
            System.exit(1);
        }
    }
}
