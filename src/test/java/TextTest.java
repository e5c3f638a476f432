/** Promises 10 to 12: append, clearText and load. */
public final class TextTest {
    public static void main(String[] args) {
        append();
        clearText();
        emptyTexts();
        goodTexts();
        spaces();
        errorsOfGrammar();
        errorsOfNumbers();
        fullPage();
        longTexts();
        Checks.end(TextTest.class);
    }

    private static void append() {
        Played p = new Played();
        for (int wrong : new int[] {0, -1, 256, Integer.MIN_VALUE, Integer.MAX_VALUE}) {
            Checks.refused(p, "10: append(" + wrong + ")", () -> p.append(wrong),
                    Checks.INVALID);
        }
        Checks.due("10: append(1)", p.append(1), 1);
        Checks.due("10: append(255)", p.append(255), 2);
        for (int i = 3; i <= 120; i++) {
            Checks.due("10: append", p.append(' '), i);
        }
        Checks.refused(p, "10: a 121st", () -> p.append(' '), Checks.FULL);
        Checks.refused(p, "10: a wrong 121st", () -> p.append(0), Checks.INVALID);
        Checks.due("10: no action", p.count(8), 0);
        Checks.due("10: the length", p.count(9), 120);
    }

    private static void clearText() {
        Played p = new Played();
        Checks.due("11: an empty text", p.clearText(), 0);
        Checks.type(p, "page 4 4; piece");
        Checks.due("11: clearText", p.clearText(), 15);
        Checks.due("11: the length", p.count(9), 0);
        Checks.due("11: no action", p.count(8), 0);
        Checks.due("11: append", p.append(';'), 1);
        Checks.due("11: the old text is gone", p.load(), -1000);
        Checks.due("11: clearText", p.clearText(), 1);
        Checks.due("11: clearText once more", p.clearText(), 0);
    }

    private static void emptyTexts() {
        Played p = new Played();
        Checks.due("12: an empty text", p.load(), 0);
        Checks.due("12: it is an action", p.count(8), 1);
        Checks.due("12: spaces alone", Checks.loaded(p, "    "), 0);
        Checks.due("12: it is an action", p.count(8), 2);
        Checks.due("12: the text becomes empty", p.count(9), 0);
    }

    private static void goodTexts() {
        Played p = Checks.with(Checks.at(1, 1, 1, 1, 1));
        Checks.due("12: items", Checks.loaded(p,
                "page 24 4;piece -20 40 12 1 0;piece 40 -20 1 12 100 frame 3;"), 3);
        Checks.due("12: one action", p.count(8), 2);
        Checks.due("12: the text becomes empty", p.count(9), 0);
        Checks.due("12: W", p.count(1), 24);
        Checks.due("12: H", p.count(2), 4);
        int[][] due = {{1, 1, 1, 1, 1, 0, 0}, {-20, 40, 12, 1, 0, 0, 1},
            {40, -20, 1, 12, 100, 3, 2}};
        for (int piece = 0; piece < due.length; piece++) {
            for (int what = 0; what <= 6; what++) {
                Checks.due("12: piece(" + piece + ", " + what + ")", p.piece(piece, what),
                        due[piece][what]);
            }
        }
        Checks.due("12: all digits", Checks.loaded(new Played(),
                "piece 9 19 9 8 99 frame 2;piece 39 -19 8 7 98;piece 16 25 4 3 90;"), 3);
        Checks.due("12: frame 0", Checks.loaded(p, "piece 1 2 3 4 5 frame 0;"), 1);
        Checks.due("12: its frame", p.piece(3, 5), 0);
        Checks.due("12: -0", Checks.loaded(p, "piece -0 -0 3 4 -0 frame -0;"), 1);
        Checks.due("12: its X", p.piece(4, 0), 0);
        Checks.due("12: its share", p.piece(4, 4), 0);
        Checks.due("12: the page alone", Checks.loaded(p, "page 4 24;"), 1);
        Checks.due("12: H", p.count(2), 24);
        Checks.due("12: undo", p.undo(), 4);
        Checks.due("12: H is back", p.count(2), 4);
        Checks.due("12: the text does not come back", p.count(9), 0);
    }

    private static void spaces() {
        Played p = new Played();
        Checks.due("12: as few as can be",
                Checks.loaded(p, "page4 4;piece-1-2 3 4 5frame1;piece1-2 3 4 5;"), 3);
        Checks.due("12: Y", p.piece(1, 1), -2);
        Checks.due("12: the frame", p.piece(0, 5), 1);
        Checks.due("12: many", Checks.loaded(p,
                "   piece   1   2   3   4   5   frame   2   ;   piece 1 2 3 4 5 ;   "), 2);
        Checks.due("12: two words", Checks.loaded(p, "piecepiece 1 2 3 4 5;"), -1000);
        Checks.due("12: two numbers", Checks.loaded(p, "page 44;"), -1005);
        Checks.due("12: another white space", Checks.loaded(p, "page\t4 4;"), -1004);
        Checks.due("12: another white space", Checks.loaded(p, "page 4 4;\n"), -1009);
    }

    private static void errorsOfGrammar() {
        String[][] texts = {
            {"p", "0"}, {"page", "4"}, {"page ", "5"}, {"page  4", "7"}, {"page 4 4", "8"},
            {"page 4 4 ", "9"}, {"pages 4 4;", "0"}, {" pag 4 4;", "1"}, {"Page 4 4;", "0"},
            {"cage 4 4;", "0"}, {"niece 1 2 3 4 5;", "0"}, {"piecf 1", "0"},
            {"piece 1 2 3 4 5 grame 1;", "16"}, {"piece 1 2 3 4 5 framf 1;", "16"}, {"page;", "4"},
            {"page 4;", "6"}, {"page 4 4 4;", "9"}, {"page 4 4 frame 1;", "9"},
            {"page 4 page;", "7"}, {"page 4 4;page 4 4;", "9"},
            {"piece 1 2 3 4 5;page 4 4;", "16"}, {";", "0"}, {" ;", "1"}, {"page 4 4;;", "9"},
            {"piece", "5"}, {"piece 1 2 3 4 5", "15"}, {"piece 1 2 3 4;", "13"},
            {"piece 1 2 3 4 5 6;", "16"}, {"piece 1 2 3 4 5 frame", "21"},
            {"piece 1 2 3 4 5 frame;", "21"}, {"piece 1 2 3 4 5 fram 1;", "16"},
            {"piece 1 2 3 4 5 frames 1;", "16"}, {"piece 1 2 3 4 5 frame 1", "23"},
            {"piece 1 2 3 4 5 frame 1 frame 1;", "24"}, {"piece 1 2 3 4 5 piece", "16"},
            {"piece 1 2 3 4 5 frame 1 2;", "24"}, {"piece 1 2 3 frame 1;", "12"},
            {"piece, 1", "5"}, {"frame 1;", "0"}, {"1", "0"}, {"-1", "0"}, {"-", "0"},
            {"piece 1 2 3 4 5 \u00e9;", "16"}, {"piece 1 2 3 4 5; piece", "22"},
            {"piece 1 2 3 4 5; pieces", "17"}, {"piece 1 2 3 4 5:", "15"},
            {"piece 1 2 3 4 5 Frame 1;", "16"}, {"piec", "0"}, {"\u0001", "0"}, {"`", "0"},
            {"{", "0"}, {"piece /", "6"}, {"piece :", "6"}, {"piece +1", "6"}};
        refusing(texts);
    }

    private static void errorsOfNumbers() {
        String[][] texts = {
            {"page 3 4;", "5"}, {"page 25 4;", "5"}, {"page 4 3;", "7"}, {"page 4 25;", "7"},
            {"page -4 4;", "5"}, {"page 04 4;", "5"}, {"page 4 04", "7"}, {"page 00 4;", "5"},
            {"piece -21 0 1 1 0;", "6"}, {"piece 41 0 1 1 0;", "6"},
            {"piece 0 -21 1 1 0;", "8"}, {"piece 0 41 1 1 0;", "8"},
            {"piece 0 0 0 1 0;", "10"}, {"piece 0 0 13 1 0;", "10"},
            {"piece 0 0 -1 1 0;", "10"}, {"piece 0 0 -0 1 0;", "10"},
            {"piece 0 0 1 0 0;", "12"}, {"piece 0 0 1 13 0;", "12"},
            {"piece 0 0 1 1 101;", "14"}, {"piece 0 0 1 1 -1;", "14"},
            {"piece 0 0 1 1 0 frame 4;", "22"}, {"piece 0 0 1 1 0 frame -1;", "22"},
            {"piece 00 0 1 1 0;", "6"}, {"piece -00 0 1 1 0;", "6"}, {"piece -01 0 1 1 0;", "6"},
            {"piece 01", "6"}, {"piece 41", "6"}, {"piece -", "6"}, {"piece - 1 2 3 4 5;", "6"},
            {"piece --1 2 3 4 5;", "6"}, {"piece 1- 2 3 4 5;", "7"}, {"piece 1 2-3 4 5;", "9"},
            {"piece 4294967297 2 3 4 5;", "6"}, {"piece 18446744073709551617 2 3 4 5;", "6"},
            {"piece -99999999999999999999 2 3 4 5;", "6"}, {"piece 1 1 10000 1 1;", "10"},
            {"piece 1 1 1 1 1000", "14"}, {"piece 1 1 1 1 1 frame 65536;", "22"}};
        refusing(texts);
    }

    /** Each text has an error at the position told with it, and changes nothing. */
    private static void refusing(String[][] texts) {
        for (String[] text : texts) {
            Played p = Checks.with(Checks.at(3, 3, 2, 2, 50));
            Checks.type(p, text[0]);
            Checks.refused(p, "12: load of \"" + text[0] + "\"", p::load,
                    -1000 - Integer.parseInt(text[1]));
        }
        // Good items ahead of the error change nothing either.
        Played p = Checks.with(Checks.at(3, 3, 2, 2, 50));
        Checks.type(p, "page 5 5;piece 1 1 1 1 1 frame 2;piece 1 1 1 1 1 frame 2 x");
        Checks.refused(p, "12: load of good items and a bad one", p::load, -1057);
    }

    private static void fullPage() {
        Played p = new Played();
        for (int i = 0; i < 11; i++) {
            p.addPiece(i, 0, 1, 1, 0);
        }
        Checks.due("12: one too many",
                Checks.loaded(p, "piece 1 1 1 1 1; piece 1 1 1 1 1;"), -1017);
        Checks.due("12: it is the word that counts", Checks.loaded(p,
                "piece 1 1 1 1 1; piece"), -1017);
        Checks.due("12: an earlier error counts", Checks.loaded(p,
                "piece 1 1 1 1 999; piece"), -1014);
        Checks.due("12: the last one", Checks.loaded(p, "piece 1 1 1 1 1;"), 1);
        Checks.due("12: the number of pieces", p.count(0), 12);
        Checks.due("12: full", Checks.loaded(p, "page 5 5; piece 1"), -1010);
        Checks.due("12: the page stays", p.count(1), 16);
        Checks.due("12: only the page", Checks.loaded(p, "page 5 5;"), 1);
        p.removePiece(3);
        Checks.due("12: room again", Checks.loaded(p, "piece 1 1 1 1 1;"), 1);
    }

    private static void longTexts() {
        String seven = "piece 0 0 1 1 0;".repeat(7);
        Checks.due("12: 112 characters", Checks.loaded(new Played(), seven + "        "), 7);
        Checks.due("12: 120 characters, cut",
                Checks.loaded(new Played(), "piece 0 0 1 1 0 frame 1; ".repeat(5).substring(0,
                        120)), -1116);
        Checks.due("12: 120 characters, one too few",
                Checks.loaded(new Played(), "piece 0 0 1 1 0 frame 1;".repeat(5).substring(0, 119)),
                        -1119);
        Checks.due("12: 120 characters that end with an item",
                Checks.loaded(new Played(), "piece 0 0 1 1 0 frame 1;".repeat(5)), 5);
        Checks.due("12: many digits", Checks.loaded(new Played(), "piece " + "1".repeat(114)),
                -1006);
        Checks.due("12: many letters", Checks.loaded(new Played(), "p".repeat(120)), -1000);
        Checks.due("12: many spaces", Checks.loaded(new Played(), " ".repeat(119) + "p"), -1119);
        Checks.due("12: many spaces", Checks.loaded(new Played(), "page" + " ".repeat(116)), -1120);
        Checks.due("12: nothing but spaces", Checks.loaded(new Played(), " ".repeat(120)), 0);
    }
}
