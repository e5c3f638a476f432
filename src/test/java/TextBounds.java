/** The sentences of the document on the text: promises 10 to 12. */
final class TextBounds {
    private static final String TEXT = "Text";
    private static final String[] NO_NUMBERS = {"4294967300", "-4294967292", "18446744073709551620",
        "1000000000000000000000004", "-", "--1", "-x", "x", ";", "+1", ".5", "piece", "\u00e9"};

    private TextBounds() {
    }

    static void run() {
        append();
        clearText();
        load();
        longTexts();
        items();
        numbers();
        numbersWithZeros();
        words();
        otherCharacters();
        spaces();
        lastTokens();
        endsOfTexts();
        fullPage();
        firstErrors();
    }

    /** A page with a piece, so that nothing is as it was at first. */
    private static Played page() {
        Played p = new Played();
        Checks.rows(p, "setPage(20, 10) = 0", "addPiece(2, 2, 3, 3, 40) = 0");
        return p;
    }

    private static Played typed(Played page, String text) {
        Played p = page.again();
        Checks.type(p, text);
        Checks.due("the length of \"" + text + "\"", p.count(9), text.length());
        return p;
    }

    /** A text that is read, and what then holds. */
    private static void good(String text, int items, String... rows) {
        Played p = typed(page(), text);
        Checks.due("load() of \"" + text + "\"", p.load(), items);
        Checks.rows(p, "count(8) = 3", "count(9) = 0");
        Checks.rows(p, rows);
    }

    /** A text with an error at a position; it is kept, and nothing changes. */
    private static void bad(String text, int position) {
        Played p = typed(page(), text);
        Played behind = p.again();
        Checks.due("load() of \"" + text + "\"", behind.load(), -1000 - position);
        Checks.hold("load() of \"" + text + "\" changes nothing",
                Checks.everything(behind).equals(Checks.everything(p)));
        Checks.due("the length of \"" + text + "\"", behind.clearText(), text.length());
    }

    private static void append() {
        Doc.says("Promise 10", "Appends a character to the text.");
        Checks.rows(new Played(), "append(112) = 1", "count(9) = 1", "load() = -1000",
                "append(32) = 2", "append(32) = 3", "clearText() = 3", "append(32) = 1",
                "append(112) = 2", "load() = -1001");
        Doc.says("Promise 10", "`character`: character code, 1 to 255");
        Checks.range(new Played(), "append(%)", 1, 1, 255, 1);
        Checks.range(typed(page(), " ".repeat(119)), "append(%)", 1, 120, 255, 120);
        Doc.says("Promise 10", "Returns the new length of the text; INVALID_ARGUMENT if");
        Played p = new Played();
        for (int length = 1; length <= 120; length++) {
            Checks.rows(p, "append(32) = " + length);
        }
        Checks.still(p, "append(32) = CAPACITY_EXCEEDED", "append(1) = CAPACITY_EXCEEDED",
                "append(255) = CAPACITY_EXCEEDED", "append(0) = INVALID_ARGUMENT",
                "append(256) = INVALID_ARGUMENT", "append(-1) = INVALID_ARGUMENT");
        Checks.rows(p, "count(8) = 0", "count(9) = 120", "load() = 0", "append(32) = 1");
    }

    private static void clearText() {
        Doc.says("Promise 11", "Makes the text empty.");
        Checks.rows(typed(page(), "page 5 5;"), "clearText() = 9", "count(9) = 0", "load() = 0",
                "count(1) = 20");
        Checks.rows(typed(page(), "page 5"), "clearText() = 6", "append(59) = 1", "load() = -1000",
                "clearText() = 1", "count(8) = 2");
        Doc.says("Promise 11", "Returns the previous length of the text.");
        Checks.rows(new Played(), "clearText() = 0", "append(1) = 1", "clearText() = 1",
                "clearText() = 0");
        Checks.rows(typed(page(), " ".repeat(120)), "clearText() = 120", "append(1) = 1");
    }

    private static void load() {
        Doc.says("Promise 12", "Reads the text.");
        good("page 5 6;piece 1 2 3 4 5 frame 3;", 2, "count(1) = 5", "count(2) = 6", "count(0) = 2",
                "piece(1, 0) = 1", "piece(1, 1) = 2", "piece(1, 2) = 3", "piece(1, 3) = 4",
                "piece(1, 4) = 5", "piece(1, 5) = 3", "piece(1, 6) = 1", "piece(0, 0) = 2");
        Doc.says("Promise 12", "The text becomes empty.");
        Checks.rows(typed(page(), "page 5 6;"), "load() = 1", "count(9) = 0", "clearText() = 0");
        Checks.rows(typed(page(), "   "), "load() = 0", "count(9) = 0", "append(32) = 1");
        Doc.says("Promise 12", "This is one action, also without items.");
        Checks.actions(new Played(), "load() = 0");
        Checks.actions(page(), "load() = 0");
        Checks.actions(typed(page(), "   "), "load() = 0");
        Checks.actions(typed(page(), "page 5 5;"), "load() = 1");
        Checks.actions(typed(page(), "page 9 9;piece 1 2 3 4 5;piece 5 4 3 2 1;"), "load() = 3");
        Doc.says("Promise 12", "Returns the number of items; -1000 minus the error position");
        good("", 0);
        good("page 4 4;", 1);
        good("piece 1 2 3 4 5;piece 5 4 3 2 1;", 2);
        bad("x", 0);
        bad("page 5 5;piece 1 1 1 1 1 frame 2;piece 1 1 1 1 1 x", 49);
        Checks.rows(typed(page(), "page 5 5;piece 1 1 1 1 1;;"), "load() = -1025", "count(0) = 1",
                "count(1) = 20", "count(8) = 2", "load() = -1025", "clearText() = 26");
    }

    private static void longTexts() {
        Doc.says(TEXT, "Pieces can be read from a text of at most 120 characters, a sequence of");
        good("piece 0 0 1 1 0 frame 1;".repeat(5), 5, "count(0) = 6");
        good(" ".repeat(120), 0);
        good(" ".repeat(111) + "page 4 4;", 1, "count(1) = 4");
        bad(" ".repeat(112) + "page 4 4", 120);
        bad(" ".repeat(119) + ";", 119);
        bad("piece 0 0 1 1 0 frame 1;".repeat(4) + "piece 0 0 1 1 0 frame 11", 118);
        bad("p".repeat(120), 0);
        bad("page " + "4".repeat(115), 5);
        bad("page -" + "0".repeat(114), 5);
        bad("page" + " ".repeat(116), 120);
        bad(";", 0);
        bad("page 4 4;;", 9);
        bad("page 4 4", 8);
    }

    private static void items() {
        Doc.says(TEXT, "\"piece\" X Y WIDTH HEIGHT SHARE [ \"frame\" FRAME ]");
        good("piece 1 2 3 4 5;", 1, "piece(1, 5) = 0");
        good("piece 1 2 3 4 5 frame 0;", 1, "piece(1, 5) = 0");
        bad("piece;", 5);
        bad("piece 1 2 3 4;", 13);
        bad("piece 1 2 3 4 5 6;", 16);
        bad("piece 1 2 3 frame 3;", 12);
        bad("piece 1 2 3 4 5 frame;", 21);
        bad("piece 1 2 3 4 5 frame 1 2;", 24);
        bad("piece 1 2 3 4 5 frame 1 frame 1;", 24);
        bad("piece 1 2 3 4 5 piece 1 2 3 4 5;", 16);
        Doc.says(TEXT, "\"page\" W H sets the page; only as the first item");
        good("page 4 24;", 1, "count(1) = 4", "count(2) = 24");
        good("page 24 4;piece 1 2 3 4 5;", 2, "count(1) = 24", "count(2) = 4");
        bad("page;", 4);
        bad("page 4;", 6);
        bad("page 4 4 4;", 9);
        bad("page 4 4 frame 1;", 9);
        bad("page 4 4;page 4 4;", 9);
        bad("piece 1 2 3 4 5;page 4 4;", 16);
        bad("page page 4 4;", 5);
        Doc.says(TEXT, "They are carried out in their order.");
        good("piece 1 2 3 4 5;piece 6 2 3 4 5;piece 7 2 3 4 5;", 3, "piece(1, 0) = 1",
                "piece(2, 0) = 6", "piece(3, 0) = 7", "piece(3, 6) = 3", "seen(7, 3) = 3");
    }

    private static void numbers() {
        Doc.says(TEXT, "The error position is the offset (from 0) of the first character of the");
        number("page % 12;", 4, 24, "count(1)");
        number("page 12 %;", 4, 24, "count(2)");
        number("piece % 0 1 1 0;", -20, 40, "piece(1, 0)");
        number("piece 0 % 1 1 0;", -20, 40, "piece(1, 1)");
        number("piece 0 0 % 1 0;", 1, 12, "piece(1, 2)");
        number("piece 0 0 1 % 0;", 1, 12, "piece(1, 3)");
        number("piece 0 0 1 1 %;", 0, 100, "piece(1, 4)");
        number("piece 0 0 1 1 0 frame %;", 0, 3, "piece(1, 5)");
        bad("frame 1;", 0);
        bad("1", 0);
        bad("-1", 0);
        bad("  5;", 2);
    }

    /** A text with % for a number that may be from low to high and nothing else. */
    private static void number(String text, int low, int high, String look) {
        int position = text.indexOf('%');
        for (int value : new int[] {low, high}) {
            good(text.replace("%", "" + value), 1, look + " = " + value);
            String zeroAhead = value < 0 ? "-0" + -value : "0" + value;
            bad(text.replace("%", zeroAhead), position);
        }
        bad(text.replace("%", "" + (low - 1)), position);
        bad(text.replace("%", "" + (high + 1)), position);
        bad(text.replace("%", "00"), position);
        bad(text.replace("%", "-00"), position);
        for (String other : NO_NUMBERS) {
            bad(text.replace("%", other), position);
        }
        bad(text.substring(0, position), position);
    }

    private static void numbersWithZeros() {
        Doc.says(TEXT, "Words are maximal runs of letters a to z; numbers are, perhaps behind a");
        good("piece -0 -0 1 1 -0 frame -0;", 1, "piece(1, 0) = 0", "piece(1, 1) = 0",
                "piece(1, 4) = 0", "piece(1, 5) = 0");
        good("piece 10 20 10 10 100;", 1, "piece(1, 0) = 10", "piece(1, 4) = 100");
        good("piece 0 -10 1 1 0;", 1, "piece(1, 1) = -10");
        bad("piece 0 0 -0 1 0;", 10);
        bad("piece 0 01 1 1 0;", 8);
        bad("piece 0 -01 1 1 0;", 8);
        bad("piece 0 0 1 1 000;", 14);
        bad("page 044 4;", 5);
        // A run of digits is a single number, a run of letters is a single word.
        bad("page 44;", 5);
        bad("page 444;", 5);
        bad("piecepiece 1 2 3 4 5;", 0);
        bad("piece 1 2 3 4 5 framex 1;", 16);
    }

    private static void words() {
        Doc.says(TEXT, "The error position is the offset (from 0) of the first character of the");
        String[] others = {"pag", "pages", "piec", "pieces", "ppage", "p", "frame", "framf", "a",
            "z", "zzzzz", "Page", "PIECE", "qage", "oiece"};
        for (String other : others) {
            bad(other + " 4 4;", 0);
            bad("  " + other, 2);
            bad("page 4 4;" + other + " 1 2 3 4 5;", 9);
        }
        String[] noFrames = {"fram", "frames", "eframe", "framd", "framf", "grame", "piece",
                "page"};
        for (String other : noFrames) {
            bad("piece 1 2 3 4 5 " + other + " 1;", 16);
            bad("piece 1 2 3 4 5" + other, 15);
        }
    }

    private static void otherCharacters() {
        Doc.says(TEXT, "The error position is the offset (from 0) of the first character of the");
        // Those beside the letters, the digits, the space, ";" and "-", and the outermost ones.
        char[] others = {1, 9, 10, 13, 31, '!', ',', '.', '/', ':', '<', '@', 'A', 'F', 'P', 'Z',
            '[', '_', '`', '{', 127, 128, 160, 178, 233, 255};
        for (char other : others) {
            bad("" + other, 0);
            bad("page" + other + "4 4;", 4);
            bad("page 4" + other + "4;", 6);
            bad("page 4 4" + other + ";", 8);
            bad("page 4 4;" + other, 9);
            bad("piece 1 2 3 4 5" + other, 15);
        }
    }

    private static void spaces() {
        Doc.says(TEXT, "Spaces (code 32) may stand before, between and after tokens; they are");
        good("page4 4;piece-1-2 3 4 5frame1;piece1-2 3 4 5;", 3, "piece(1, 0) = -1",
                "piece(1, 1) = -2", "piece(1, 5) = 1", "piece(2, 0) = 1", "piece(2, 1) = -2");
        good("  page  4  4  ;  piece  1  2  3  4  5  frame  2  ;  ", 2, "piece(1, 5) = 2");
        good("page 4 4 ;", 1);
        good(" page 4 4;", 1);
        good("page 4 4; ", 1);
        bad("pa ge 4 4;", 0);
        bad("piece 1 2 3 4 5 fra me 1;", 16);
        bad("page 2 4 4;", 5);
        bad("piece - 1 2 3 4 5;", 6);
        bad("piece 1 2 3 4 5frame1 ; x", 24);
    }

    private static void lastTokens() {
        Doc.says(TEXT, "(This holds for the last token of the text, too; a \"-\" without a digit");
        bad("piec", 0);
        bad("pag", 0);
        bad("page 3", 5);
        bad("page 25", 5);
        bad("page 4 04", 7);
        bad("page 4 4 4", 9);
        bad("page 4 4 page", 9);
        bad("page 4 4;page", 9);
        bad("piece 41", 6);
        bad("piece -21", 6);
        bad("piece 01", 6);
        bad("piece 1 2 3 4 5 fram", 16);
        bad("piece 1 2 3 4 5 frame 4", 22);
        bad("piece 1 2 3 4 101", 14);
        bad("piece 1 2 3 4 5 6", 16);
        bad("-", 0);
        bad("piece -", 6);
        bad("piece 1-", 7);
        bad("piece 1 -;", 8);
        bad("piece --1", 6);
        bad("piece 1 2 3 4 5-", 15);
        bad("piece 1 2 3 4 5 frame -", 22);
        bad("page 4 4;-", 9);
    }

    private static void endsOfTexts() {
        Doc.says(TEXT, "If the text ends where another token must come, the error position is");
        String text = "piece 1 2 3 4 5 frame 1";
        for (int end : new int[] {5, 7, 9, 11, 13, 15, 21, 23}) {
            bad(text.substring(0, end), end);
            bad(text.substring(0, end) + " ", end + 1);
            bad("page 4 4;" + text.substring(0, end) + "   ", 9 + end + 3);
        }
        for (int end : new int[] {4, 6, 8}) {
            bad("page 4 4".substring(0, end), end);
            bad("page 4 4".substring(0, end) + "  ", end + 2);
        }
        good("page 4 4;", 1);
    }

    private static void fullPage() {
        Doc.says(TEXT, "The error position is the offset (from 0) of the first character of the");
        String piece = "piece 1 1 1 1 1;";
        Checks.rows(typed(PageBounds.inARow(11), piece), "load() = 1", "count(0) = 12");
        Checks.still(typed(PageBounds.inARow(11), piece + piece), "load() = -1016");
        Checks.still(typed(PageBounds.inARow(11), piece + " piece"), "load() = -1017");
        Checks.still(typed(PageBounds.inARow(11), piece + " pieces"), "load() = -1017");
        Checks.still(typed(PageBounds.inARow(11), "piece 1 1 1 1 101;piece"), "load() = -1014");
        Checks.still(typed(PageBounds.inARow(12), piece), "load() = -1000");
        Checks.still(typed(PageBounds.inARow(12), "piece 99"), "load() = -1000");
        Checks.still(typed(PageBounds.inARow(12), " page 4 4; piece"), "load() = -1011");
        Checks.rows(typed(PageBounds.inARow(12), "page 4 4;"), "load() = 1", "count(0) = 12");
        Checks.rows(typed(PageBounds.inARow(12), " "), "load() = 0", "count(0) = 12");
        // Seven pieces fit into a text: six are on the page, or five.
        Checks.still(typed(PageBounds.inARow(6), piece.repeat(7)), "load() = -1096");
        Checks.rows(typed(PageBounds.inARow(5), piece.repeat(7)), "load() = 7", "count(0) = 12");
    }

    private static void firstErrors() {
        Doc.says(TEXT, "The text is read from left to right.");
        bad("piece 99 99 99 99 999 frame 9;", 6);
        bad("piece 1 99 99 99 999 frame 9;", 8);
        bad("page 3 3; x", 5);
        bad("page 4 4 x 00", 9);
        bad("page 99 4;piecf", 5);
        bad("piece 1 1 1 1 1; page 4 4; 99", 17);
        bad(";-", 0);
    }
}
