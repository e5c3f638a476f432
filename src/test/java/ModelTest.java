import java.util.function.IntSupplier;

/**
 * Runs of calls, made by a fixed sequence of numbers, on LaidPieces and on the plain model: both
 * must answer the same.
 */
public final class ModelTest {
    private static final int CALLS = Played.CALLS;
    private static final String[] SNIPPETS = {"piece ", "piece", "page ", "page", "frame ",
            " frame",
        ";", "; ", " ", "  ", "-", "0", "1", "5", "12", "13", "24", "25", "40", "41", "100", "101",
        "-20", "-21", "-0", "00", "01", "3", "4", "x", "P", "\t", ",", "pieces", "frames 1"};

    private long seed;
    private LaidPieces pieces;
    private PlainModel model;
    private int calls;
    private String run;

    public static void main(String[] args) {
        for (int i = 0; i < 250; i++) {
            new ModelTest(i).mixedRun();
        }
        for (int i = 0; i < 250; i++) {
            new ModelTest(10000 + i).crowdedRun();
        }
        for (int i = 0; i < 250; i++) {
            new ModelTest(20000 + i).textRun();
        }
        Checks.end(ModelTest.class);
    }

    private ModelTest(int number) {
        seed = number * 7919L + 17;
        pieces = new LaidPieces();
        model = new PlainModel();
        calls = 0;
        run = "run " + number + ", call ";
    }

    /** A number from low to high, made from the one before it. */
    private int from(int low, int high) {
        seed = seed * 6364136223846793005L + 1442695040888963407L;
        return low + (int) Math.floorMod(seed >>> 33, (long) high - low + 1);
    }

    private boolean oneOf(int number) {
        return from(1, number) == 1;
    }

    /** Mostly a number from low to high, now and then one beside it or far from it. */
    private int about(int low, int high) {
        int choice = from(0, 59);
        if (choice == 0) {
            return low - 1;
        }
        if (choice == 1) {
            return high + 1;
        }
        if (choice == 2) {
            int[] far = {Integer.MIN_VALUE, Integer.MAX_VALUE, -1000, 1000, 1 << 30, -(1 << 30)};
            return far[from(0, far.length - 1)];
        }
        return from(low, high);
    }

    private int aPiece() {
        return about(0, Math.max(0, model.count(0) - 1));
    }

    /** Makes a call on both, as long as an object answers. */
    private void same(String call, IntSupplier got, IntSupplier want) {
        if (calls == CALLS) {
            return;
        }
        calls++;
        Checks.due(run + calls + ": " + call, got.getAsInt(), want.getAsInt());
    }

    private void mixedRun() {
        while (calls < CALLS) {
            if (oneOf(3)) {
                change(-20, 40);
            } else {
                look();
            }
        }
    }

    /** Small pieces that lie close together, so that much is hidden and little is content. */
    private void crowdedRun() {
        setPage(from(4, 24), from(4, 24));
        for (int i = from(3, 12); i > 0; i--) {
            addPiece(from(-3, 8), from(-3, 8), from(1, 12), from(1, 12), from(0, 100));
        }
        while (calls < CALLS) {
            if (oneOf(4)) {
                change(-4, 14);
            } else {
                look();
            }
        }
    }

    private void textRun() {
        while (calls < CALLS) {
            type(oneOf(2) ? goodText() : SNIPPETS[from(0, SNIPPETS.length - 1)]);
            if (oneOf(3)) {
                same("load()", pieces::load, model::load);
                if (oneOf(2)) {
                    same("clearText()", pieces::clearText, model::clearText);
                }
                for (int i = 0; i < 6; i++) {
                    look();
                }
            }
            if (oneOf(8)) {
                change(-20, 40);
            }
        }
    }

    /** Some items, now and then with a character changed, dropped or put in. */
    private String goodText() {
        StringBuilder s = new StringBuilder();
        if (oneOf(4)) {
            s.append("page ").append(about(4, 24)).append(' ').append(about(4, 24)).append(';');
        }
        for (int i = from(0, 3); i > 0; i--) {
            s.append(oneOf(2) ? "piece " : " piece").append(about(-20, 40)).append(' ');
            s.append(about(-20, 40)).append(' ').append(about(1, 12)).append(' ');
            s.append(about(1, 12)).append(oneOf(9) ? " -" : "  ").append(about(0, 100));
            s.append(oneOf(2) ? "" : "frame" + about(0, 3)).append(oneOf(2) ? " ;" : ";");
        }
        if (s.length() > 0 && oneOf(3)) {
            int at = from(0, s.length() - 1);
            String snippet = SNIPPETS[from(0, SNIPPETS.length - 1)];
            s.replace(at, oneOf(2) ? at : at + 1, oneOf(3) ? "" : snippet);
        }
        return s.toString();
    }

    private void type(String text) {
        for (int i = 0; i < text.length(); i++) {
            int character = text.charAt(i);
            same("append(" + character + ")", () -> pieces.append(character),
                    () -> model.append(character));
        }
    }

    private void setPage(int columns, int rows) {
        same("setPage(" + columns + ", " + rows + ")", () -> pieces.setPage(columns, rows),
                () -> model.setPage(columns, rows));
    }

    private void addPiece(int x, int y, int width, int height, int share) {
        same("addPiece(" + x + ", " + y + ", " + width + ", " + height + ", " + share + ")",
                () -> pieces.addPiece(x, y, width, height, share),
                () -> model.addPiece(x, y, width, height, share));
    }

    private void change(int low, int high) {
        int piece = aPiece();
        int a = about(0, 100);
        int b = about(-9, 9);
        int c = about(-9, 9);
        switch (from(0, 14)) {
            case 0:
                setPage(about(4, 24), about(4, 24));
                break;
            case 1:
            case 2:
            case 3:
                addPiece(about(low, high), about(low, high), about(1, 12), about(1, 12), a);
                break;
            case 4:
                same("removePiece(" + piece + ")", () -> pieces.removePiece(piece),
                        () -> model.removePiece(piece));
                break;
            case 5:
                same("setShare(" + piece + ", " + a + ")", () -> pieces.setShare(piece, a),
                        () -> model.setShare(piece, a));
                break;
            case 6:
            case 7:
                int frame = about(0, 3);
                same("setFrame(" + piece + ", " + frame + ")",
                        () -> pieces.setFrame(piece, frame), () -> model.setFrame(piece, frame));
                break;
            case 8:
            case 9:
                same("shift(" + piece + ", " + b + ", " + c + ")",
                        () -> pieces.shift(piece, b, c), () -> model.shift(piece, b, c));
                break;
            case 10:
                int dx = about(-60, 60);
                int dy = about(-60, 60);
                same("shift(" + piece + ", " + dx + ", " + dy + ")",
                        () -> pieces.shift(piece, dx, dy), () -> model.shift(piece, dx, dy));
                break;
            case 11:
            case 12:
                int layer = aPiece();
                same("setLayer(" + piece + ", " + layer + ")",
                        () -> pieces.setLayer(piece, layer), () -> model.setLayer(piece, layer));
                break;
            case 13:
                same("arrange()", pieces::arrange, model::arrange);
                break;
            default:
                same("undo()", pieces::undo, model::undo);
                break;
        }
    }

    private void look() {
        int piece = aPiece();
        int other = aPiece();
        int column = about(0, model.count(1) - 1);
        int row = about(0, model.count(2) - 1);
        int index = about(0, 11);
        switch (from(0, 13)) {
            case 0:
            case 1:
                int what = about(0, 9);
                same("count(" + what + ")", () -> pieces.count(what), () -> model.count(what));
                break;
            case 2:
            case 3:
            case 4:
                int which = about(0, 12);
                same("piece(" + piece + ", " + which + ")", () -> pieces.piece(piece, which),
                        () -> model.piece(piece, which));
                break;
            case 5:
                same("seen(" + column + ", " + row + ")", () -> pieces.seen(column, row),
                        () -> model.seen(column, row));
                break;
            case 6:
                same("inLayer(" + piece + ")", () -> pieces.inLayer(piece),
                        () -> model.inLayer(piece));
                break;
            case 7:
                int depth = about(0, 3);
                same("covering(" + column + ", " + row + ", " + depth + ")",
                        () -> pieces.covering(column, row, depth),
                        () -> model.covering(column, row, depth));
                break;
            case 8:
                int with = oneOf(3) ? from(-3, -1) : other;
                same("edge(" + piece + ", " + with + ")", () -> pieces.edge(piece, with),
                        () -> model.edge(piece, with));
                break;
            case 9:
                same("hides(" + piece + ", " + other + ")", () -> pieces.hides(piece, other),
                        () -> model.hides(piece, other));
                break;
            case 10:
                same("byShare(" + index + ")", () -> pieces.byShare(index),
                        () -> model.byShare(index));
                break;
            case 11:
                int aim = about(0, 2);
                int answer = about(0, 2);
                same("leastShift(" + piece + ", " + aim + ", " + answer + ")",
                        () -> pieces.leastShift(piece, aim, answer),
                        () -> model.leastShift(piece, aim, answer));
                break;
            case 12:
                same("layerFor(" + piece + ")", () -> pieces.layerFor(piece),
                        () -> model.layerFor(piece));
                break;
            default:
                same("worst()", pieces::worst, model::worst);
                break;
        }
    }
}
