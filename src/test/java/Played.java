import java.util.ArrayList;
import java.util.Arrays;
import java.util.List;

/**
 * A LaidPieces as the tests use it. The document promises nothing behind the 512th call: when an
 * object is used up, the calls that may have changed something are made again on a new one.
 */
final class Played {
    static final int CALLS = 512;
    private static final List<String> LOOKS = Arrays.asList("count", "piece", "seen", "inLayer",
            "covering", "edge", "hides", "byShare", "leastShift", "layerFor", "worst");

    private record Call(String name, int[] arguments) {
    }

    private final List<Call> kept = new ArrayList<>();
    private LaidPieces object = new LaidPieces();
    private int made = 0;
    private boolean keepsLooks = false;

    /** Another one that has had the same calls. */
    Played again() {
        Played other = new Played();
        other.kept.addAll(kept);
        other.renew();
        return other;
    }

    /** From now on looks count as calls that may change something, too, or don't. */
    void keepLooks(boolean keeps) {
        keepsLooks = keeps;
    }

    /** Makes a call that is written out, as "shift(0, 1, -2)". */
    int call(String text) {
        int open = text.indexOf('(');
        String inside = text.substring(open + 1, text.lastIndexOf(')')).trim();
        int[] arguments = inside.isEmpty() ? new int[0]
                : Arrays.stream(inside.split(", *")).mapToInt(Integer::parseInt).toArray();
        return make(text.substring(0, open), arguments);
    }

    private int make(String name, int... arguments) {
        if (made == CALLS) {
            renew();
        }
        Call call = new Call(name, arguments);
        if (keepsLooks || !LOOKS.contains(name)) {
            kept.add(call);
        }
        made++;
        return answer(object, call);
    }

    private void renew() {
        object = new LaidPieces();
        made = 0;
        for (Call call : kept) {
            made++;
            answer(object, call);
        }
        if (made >= CALLS) {
            throw new IllegalStateException("a test keeps more calls than an object answers");
        }
    }

    private static int answer(LaidPieces p, Call call) {
        int[] a = call.arguments;
        switch (call.name) {
            case "setPage": return p.setPage(a[0], a[1]);
            case "addPiece": return p.addPiece(a[0], a[1], a[2], a[3], a[4]);
            case "removePiece": return p.removePiece(a[0]);
            case "setShare": return p.setShare(a[0], a[1]);
            case "setFrame": return p.setFrame(a[0], a[1]);
            case "shift": return p.shift(a[0], a[1], a[2]);
            case "setLayer": return p.setLayer(a[0], a[1]);
            case "arrange": return p.arrange();
            case "append": return p.append(a[0]);
            case "clearText": return p.clearText();
            case "load": return p.load();
            case "undo": return p.undo();
            case "count": return p.count(a[0]);
            case "piece": return p.piece(a[0], a[1]);
            case "seen": return p.seen(a[0], a[1]);
            case "inLayer": return p.inLayer(a[0]);
            case "covering": return p.covering(a[0], a[1], a[2]);
            case "edge": return p.edge(a[0], a[1]);
            case "hides": return p.hides(a[0], a[1]);
            case "byShare": return p.byShare(a[0]);
            case "leastShift": return p.leastShift(a[0], a[1], a[2]);
            case "layerFor": return p.layerFor(a[0]);
            case "worst": return p.worst();
            default: throw new IllegalArgumentException("no call named " + call.name);
        }
    }

    int setPage(int columns, int rows) {
        return make("setPage", columns, rows);
    }

    int addPiece(int x, int y, int width, int height, int share) {
        return make("addPiece", x, y, width, height, share);
    }

    int removePiece(int piece) {
        return make("removePiece", piece);
    }

    int setShare(int piece, int share) {
        return make("setShare", piece, share);
    }

    int setFrame(int piece, int frame) {
        return make("setFrame", piece, frame);
    }

    int shift(int piece, int dx, int dy) {
        return make("shift", piece, dx, dy);
    }

    int setLayer(int piece, int layer) {
        return make("setLayer", piece, layer);
    }

    int arrange() {
        return make("arrange");
    }

    int append(int character) {
        return make("append", character);
    }

    int clearText() {
        return make("clearText");
    }

    int load() {
        return make("load");
    }

    int undo() {
        return make("undo");
    }

    int count(int what) {
        return make("count", what);
    }

    int piece(int piece, int what) {
        return make("piece", piece, what);
    }

    int seen(int column, int row) {
        return make("seen", column, row);
    }

    int inLayer(int layer) {
        return make("inLayer", layer);
    }

    int covering(int column, int row, int index) {
        return make("covering", column, row, index);
    }

    int edge(int piece, int with) {
        return make("edge", piece, with);
    }

    int hides(int piece, int hidden) {
        return make("hides", piece, hidden);
    }

    int byShare(int index) {
        return make("byShare", index);
    }

    int leastShift(int piece, int aim, int what) {
        return make("leastShift", piece, aim, what);
    }

    int layerFor(int piece) {
        return make("layerFor", piece);
    }

    int worst() {
        return make("worst");
    }
}
