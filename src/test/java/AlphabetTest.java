/** Promises 1 to 8 and 23: a new object, the letters and what is told of them. */
public final class AlphabetTest {
    public static void main(String[] args) {
        newObject();
        setLetter();
        wrongRows();
        letter();
        isFree();
        isClear();
        alike();
        closest();
        advise();
        mean();
        Check.end("AlphabetTest");
    }

    private static void newObject() {
        KnotLetters x = new KnotLetters();
        for (int letter = 0; letter < 12; letter++) {
            for (int what = 0; what < 3; what++) {
                Check.same("P1 letter", x.letter(letter, what), 0);
            }
        }
        for (int what = 0; what < 7; what++) {
            Check.same("P1 count", x.count(what), 0);
        }
        Check.throwsIndex(x, "P1 cord", () -> x.cord(0, 0));
        Check.throwsIndex(x, "P1 byteAt", () -> x.byteAt(0));
        Check.same("P1 setKnotter", x.setKnotter(0, 0), 0);
        Check.same("P1 setCosts", x.setCosts(4, 4), 44);
        for (int a = 1; a <= 4; a++) {
            for (int b = 1; b <= 4; b++) {
                if (a != b) {
                    Check.same("P1 setFeel", x.setFeel(a, b, 3), 3);
                }
            }
        }
        Check.same("P1 trim", x.trim(0), 0);
    }

    private static void setLetter() {
        KnotLetters x = new KnotLetters();
        Check.same("P2 first", x.setLetter(0, 1), 0);
        Check.same("P2 again", x.setLetter(0, 4444), 1);
        Check.same("P2 none", x.setLetter(0, 0), 4444);
        Check.same("P2 from none", x.setLetter(0, 1234), 0);
        Check.same("P2 last letter", x.setLetter(11, 4321), 0);
        Check.same("P2 last letter again", x.setLetter(11, 4321), 4321);
        Check.same("P2 others stay", x.letter(0, 0), 1234);
        for (int row = 1; row <= 4444; row++) {
            if (Model.isRow(row)) {
                KnotLetters y = new KnotLetters();
                y.setLetter(5, row);
                Check.same("P2 row", y.letter(5, 0), row);
                Check.same("P2 size", y.letter(5, 1), String.valueOf(row).length());
            }
        }
    }

    private static void wrongRows() {
        KnotLetters x = Check.letters(1, 22);
        int[] letters = {-1, 12, Integer.MIN_VALUE, Integer.MAX_VALUE};
        for (int letter : letters) {
            Check.throwsIndex(x, "P2 letter " + letter, () -> x.setLetter(letter, 1));
            Check.throwsIndex(x, "P2 letter ahead of row " + letter, () -> x.setLetter(letter, 5));
        }
        int[] rows = {-1, -11, 5, 6, 9, 10, 15, 20, 51, 101, 110, 115, 151, 511, 1110, 1101, 1011, 4445, 4454,
            4544, 5444, 11111, 44444, 111111, Integer.MIN_VALUE, Integer.MAX_VALUE};
        for (int row : rows) {
            Check.throwsArgument(x, "P2 row " + row, () -> x.setLetter(0, row));
        }
    }

    private static void letter() {
        KnotLetters x = Check.letters(1, 22, 0, 1234);
        Check.same("P3 row", x.letter(1, 0), 22);
        Check.same("P3 knots", x.letter(1, 1), 2);
        Check.same("P3 knots of four", x.letter(3, 1), 4);
        Check.same("P3 none", x.letter(2, 1), 0);
        Check.tied(x, "abba d");
        Check.same("P3 tied", x.letter(0, 2), 2);
        Check.same("P3 tied", x.letter(1, 2), 2);
        Check.same("P3 tied", x.letter(3, 2), 1);
        x.setLetter(0, 0);
        Check.same("P3 tied in all, also of other rows", x.letter(0, 2), 2);
        x.setLetter(0, 4);
        x.setKnotter(0, 1);
        Check.tied(x, "aaa");
        Check.same("P3 tied, all left out", x.letter(0, 2), 5);
        Check.throwsIndex(x, "P3 letter", () -> x.letter(-1, 0));
        Check.throwsIndex(x, "P3 letter", () -> x.letter(12, 0));
        Check.throwsIndex(x, "P3 what", () -> x.letter(0, -1));
        Check.throwsIndex(x, "P3 what", () -> x.letter(0, 3));
        Check.throwsIndex(x, "P3 all", () -> x.letter(Integer.MIN_VALUE, Integer.MAX_VALUE));
    }

    private static void isFree() {
        Check.holds("P4 none", new KnotLetters().isFree());
        Check.holds("P4 one", Check.letters(1).isFree());
        Check.holds("P4 others", Check.letters(1, 21, 22, 23).isFree());
        Check.fails("P4 same", Check.letters(12, 0, 12).isFree());
        Check.fails("P4 beginning ahead", Check.letters(1, 0, 0, 12).isFree());
        Check.fails("P4 beginning behind", Check.letters(1234, 3, 12).isFree());
        Check.holds("P4 an end is no beginning", Check.letters(1, 21, 31, 4111).isFree());
        Check.holds("P4 all of four", Check.letters(1111, 1112, 1113, 1114, 1121, 1122, 1123, 1124, 1131, 1132, 1133,
                1134).isFree());
        KnotLetters x = new KnotLetters();
        x.setLetter(10, 33);
        x.setLetter(11, 333);
        Check.fails("P4 the last two", x.isFree());
    }

    private static void isClear() {
        Check.holds("P5 none", new KnotLetters().isClear());
        Check.holds("P5 one", Check.letters(1111).isClear());
        Check.holds("P5 free", Check.letters(1, 21, 22, 23).isClear());
        Check.fails("P5 same", Check.letters(12, 12).isClear());
        Check.fails("P5 two of one", Check.letters(1, 11).isClear());
        Check.fails("P5 powers", Check.letters(11, 0, 111).isClear());
        Check.fails("P5 one and two", Check.letters(1, 2, 12).isClear());
        Check.holds("P5 not free, but clear", Check.letters(1, 12, 122, 1222).isClear());
        Check.holds("P5 clear from behind", Check.letters(1, 12, 123).isClear());
        Check.fails("P5 a longer one", Check.letters(1, 122, 221, 2122).isClear());
        Check.fails("P5 by some rests", Check.letters(12, 121, 2121, 1).isClear());
        Check.fails("P5 rest that begins a row", Check.letters(1, 1234, 2341, 2343).isClear());
        Check.holds("P5 rests without an end", Check.letters(1, 12, 22).isClear());
        Check.fails("P5 rests of rests", Check.letters(1, 12, 23, 34, 41).isClear());
        Check.fails("P5 the greatest rest", Check.letters(1, 1444, 444).isClear());
        Check.holds("P5 rests of rests, none comes back", Check.letters(1, 12, 23, 34).isClear());
        KnotLetters x = Check.letters(12, 1, 2);
        Check.fails("P5 ahead", x.isClear());
        x.setFeel(1, 2, 0);
        x.setLetter(2, 0);
        Check.holds("P5 kinds that cost nothing are different", x.isClear());
        x.setLetter(11, 12);
        Check.fails("P5 last letter", x.isClear());
    }

    private static void alike() {
        KnotLetters x = Check.letters(1, 2, 12, 1234, 0, 4321);
        Check.same("P6 same", x.alike(0, 0), 0);
        Check.same("P6 taken", x.alike(0, 1), 3);
        Check.same("P6 ghost", x.alike(0, 2), 4);
        Check.same("P6 missed", x.alike(2, 0), 4);
        Check.same("P6 none", x.alike(0, 4), -1);
        Check.same("P6 none", x.alike(4, 0), -1);
        Check.same("P6 none twice", x.alike(4, 4), -1);
        Check.same("P6 all taken", x.alike(3, 5), 12);
        x.setCosts(1, 2);
        Check.same("P6 missed and ghost cost less", x.alike(0, 1), 3);
        x.setFeel(1, 2, 9);
        Check.same("P6 missed and ghost cost less", x.alike(1, 0), 3);
        Check.same("P6 ghosts", x.alike(0, 3), 6);
        Check.same("P6 missed", x.alike(3, 0), 3);
        x.setCosts(9, 9);
        x.setFeel(1, 3, 0);
        x.setFeel(2, 3, 0);
        Check.same("P6 no third kind", x.alike(0, 1), 9);
        Check.throwsIndex(x, "P6 a", () -> x.alike(-1, 0));
        Check.throwsIndex(x, "P6 a", () -> x.alike(12, 0));
        Check.throwsIndex(x, "P6 b", () -> x.alike(0, -1));
        Check.throwsIndex(x, "P6 b", () -> x.alike(0, 12));
        Check.throwsIndex(x, "P6 b ahead of none", () -> x.alike(4, 12));
    }

    private static void closest() {
        KnotLetters x = new KnotLetters();
        Check.same("P7 none", x.closest(), -1);
        x.setLetter(7, 1111);
        Check.same("P7 one", x.closest(), -1);
        x.setLetter(11, 2222);
        Check.same("P7 one pair", x.closest(), 12 * 7 + 11);
        x.setLetter(3, 2224);
        Check.same("P7 least distance", x.closest(), 12 * 3 + 11);
        x.setLetter(2, 2223);
        Check.same("P7 least number of several", x.closest(), 12 * 2 + 3);
        KnotLetters y = Check.letters(1, 12, 2333);
        y.setCosts(9, 1);
        Check.same("P7 from a to b", y.closest(), 1);
        y.setCosts(1, 9);
        Check.same("P7 from a to b", y.closest(), 1);
        KnotLetters z = Check.letters(1111, 11, 44);
        z.setCosts(9, 1);
        Check.same("P7 a is meant, b is there", z.closest(), 12 + 2);
        z.setCosts(1, 9);
        Check.same("P7 a is meant, b is there", z.closest(), 1);
        Check.same("P7 distance 0", Check.letters(1, 2, 2, 1, 1).closest(), 3);
    }

    private static void advise() {
        Check.same("P8 none", new KnotLetters().advise(), 1);
        Check.same("P8 next", Check.letters(1).advise(), 2);
        Check.same("P8 beginning of one", Check.letters(1, 21, 32).advise(), 4);
        Check.same("P8 two knots", Check.letters(1, 2, 3, 43, 41).advise(), 42);
        Check.same("P8 three knots", Check.letters(1, 2, 3, 41, 42, 43, 441).advise(), 442);
        Check.same("P8 four knots", Check.letters(1, 2, 3, 41, 42, 43, 441, 442, 443, 4441, 4442, 4444).advise(), 4443);
        Check.same("P8 the last", Check.letters(1, 2, 3, 41, 42, 43, 441, 442, 443, 4441, 4442, 4443).advise(), 4444);
        Check.same("P8 no row", Check.letters(1, 2, 3, 4).advise(), 0);
        Check.same("P8 no row, longer", Check.letters(1, 2, 3, 41, 42, 43, 44).advise(), 0);
        Check.same("P8 fewer knots first", Check.letters(1111, 2111, 3111, 4111).advise(), 12);
    }

    private static void mean() {
        KnotLetters x = new KnotLetters();
        Check.sameDouble("P23 none", x.mean(), 0);
        x.setLetter(4, 123);
        Check.sameDouble("P23 one", x.mean(), 3);
        x.setLetter(5, 12);
        Check.sameDouble("P23 two", x.mean(), 2.5);
        x.setLetter(11, 44);
        Check.sameDouble("P23 three", x.mean(), 7.0 / 3);
        x.setLetter(4, 0);
        x.setLetter(5, 0);
        x.setLetter(11, 0);
        Check.sameDouble("P23 none again", x.mean(), 0);
    }
}
