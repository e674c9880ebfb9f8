/** Promises 1 to 8 and 23: a test for each sentence that names a boundary. */
public final class AlphabetEdgesTest {
    private static final int[] NO_LETTERS = {-1, 12, 13, 255, Integer.MIN_VALUE, Integer.MAX_VALUE};

    public static void main(String[] args) {
        Check.sentence("P1: Creates an alphabet without knots, and no cords.", AlphabetEdgesTest::newObject);
        Check.sentence("P2: row: its row of knots, 0 for none", AlphabetEdgesTest::rowOfNone);
        Check.sentence("P2: Returns the row before.", AlphabetEdgesTest::rowBefore);
        Check.sentence("P2: Throws IndexOutOfBoundsException if letter is not 0 to 11",
                AlphabetEdgesTest::setNoLetter);
        Check.sentence("P2: Throws IllegalArgumentException if row is not 0, nor of 1 to 4 digits from 1 to 4",
                AlphabetEdgesTest::setNoRow);
        Check.sentence("P3: 0 its row, 1 how many knots it has", AlphabetEdgesTest::rowAndKnots);
        Check.sentence("P3: 2 how often it was tied in all", AlphabetEdgesTest::tiedInAll);
        Check.sentence("P3: (also when all its knots were left out)", AlphabetEdgesTest::tiedAllLeftOut);
        Check.sentence("P3: Throws IndexOutOfBoundsException if letter is not 0 to 11, or what is not 0 to 2",
                AlphabetEdgesTest::noSuchLetterOrWhat);
        Check.sentence("P4: no row of a letter is the beginning of that of another letter",
                AlphabetEdgesTest::beginnings);
        Check.sentence("P4: or the same as, that of another letter", AlphabetEdgesTest::sameRows);
        Check.sentence("P5: no two different rows of letters have just the same knots",
                AlphabetEdgesTest::twoRowsOfLetters);
        Check.sentence("P5: however long", AlphabetEdgesTest::howeverLong);
        Check.sentence("P5: (kinds are the same here only if they are equal, whatever costs tell)",
                AlphabetEdgesTest::equalKindsOnly);
        measuring();
        Check.end("AlphabetEdgesTest");
    }

    private static void measuring() {
        Check.sentence("P6: Returns the distance from the knots of the one to those of the other one",
                AlphabetEdgesTest::fromOneToOther);
        Check.sentence("P6: -1 if one of both has none", AlphabetEdgesTest::alikeToNone);
        Check.sentence("P6: Throws IndexOutOfBoundsException if a or b is not 0 to 11", AlphabetEdgesTest::noPair);
        Check.sentence("P7: all pairs of letters with knots, a less than b, that with the least distance from a to b",
                AlphabetEdgesTest::leastFromAToB);
        Check.sentence("P7: 12 * a and b", AlphabetEdgesTest::twelveTimes);
        Check.sentence("P7: of several the least number", AlphabetEdgesTest::leastNumber);
        Check.sentence("P7: -1 if there is no pair", AlphabetEdgesTest::noTwoLetters);
        Check.sentence("P8: by the number of its knots, then as a number", AlphabetEdgesTest::orderOfRows);
        Check.sentence("P8: neither the beginning of a row of a letter nor begins with one",
                AlphabetEdgesTest::neitherBeginning);
        Check.sentence("P8: 0 if there is none of at most 4 knots", AlphabetEdgesTest::noFreeRow);
        Check.sentence("P23: the mean number of knots of the letters that have some", AlphabetEdgesTest::meanOfSome);
        Check.sentence("P23: 0 if there are none", AlphabetEdgesTest::meanOfNone);
    }

    private static void newObject() {
        KnotLetters x = new KnotLetters();
        for (int letter = 0; letter < 12; letter++) {
            for (int what = 0; what < 3; what++) {
                Check.same("letter", x.letter(letter, what), 0);
            }
        }
        for (int what = 0; what < 7; what++) {
            Check.same("count", x.count(what), 0);
        }
        Check.holds("isFree", x.isFree());
        Check.holds("isClear", x.isClear());
        Check.same("alike", x.alike(0, 11), -1);
        Check.same("closest", x.closest(), -1);
        Check.same("advise", x.advise(), 1);
        Check.sameDouble("mean", x.mean(), 0);
        Check.same("trim", x.trim(0), 0);
        Check.refusedIndex("cord", KnotLetters::new, y -> y.cord(0, 0));
        Check.refusedIndex("knot", KnotLetters::new, y -> y.knot(0, 0));
        Check.refusedIndex("retie", KnotLetters::new, y -> y.retie(0, 0, 1));
        Check.refusedIndex("distance", KnotLetters::new, y -> y.distance(0, 0));
        Check.refusedIndex("nearest", KnotLetters::new, y -> y.nearest(0));
        Check.refusedIndex("read", KnotLetters::new, y -> y.read(0));
        Check.refusedIndex("byteAt", KnotLetters::new, y -> y.byteAt(0));
        Check.refusedArgument("trim", KnotLetters::new, y -> y.trim(1));
        KnotLetters used = Check.busy();
        Check.holds("one object does not share with another one", used.digest() != new KnotLetters().digest());
        Check.same("nor the other way round", new KnotLetters().digest(), x.digest());
    }

    private static void rowOfNone() {
        KnotLetters x = Check.letters(12, 123);
        Check.tied(x, "ab");
        Check.same("to none", x.setLetter(0, 0), 12);
        Check.same("row", x.letter(0, 0), 0);
        Check.same("knots", x.letter(0, 1), 0);
        Check.same("letters with knots", x.count(0), 1);
        Check.same("alike", x.alike(0, 1), -1);
        Check.holds("free of it", x.isFree());
        Check.same("it is tied no more", Check.tied(x, "a"), -1);
        Check.sameText("what was tied stays", Check.knots(x, 0), "12123");
        Check.same("from none to none", x.setLetter(0, 0), 0);
    }

    private static void rowBefore() {
        KnotLetters x = new KnotLetters();
        int[] letters = {0, 11};
        int[] rows = {1, 4, 11, 44, 111, 444, 1111, 4444, 4444, 0, 0, 2};
        for (int letter : letters) {
            int before = 0;
            for (int row : rows) {
                Check.same("the row ahead of " + row, x.setLetter(letter, row), before);
                Check.same("the row", x.letter(letter, 0), row);
                before = row;
            }
        }
        for (int letter = 1; letter < 11; letter++) {
            Check.same("other letters stay", x.letter(letter, 0), 0);
        }
    }

    private static void setNoLetter() {
        for (int letter : NO_LETTERS) {
            Check.refusedIndex("letter " + letter, Check::busy, x -> x.setLetter(letter, 1));
            Check.refusedIndex("none for letter " + letter, Check::busy, x -> x.setLetter(letter, 0));
            Check.refusedIndex("letter " + letter + " and no row", Check::busy, x -> x.setLetter(letter, 5));
        }
        KnotLetters x = new KnotLetters();
        for (int letter = 0; letter < 12; letter++) {
            Check.same("letter " + letter, x.setLetter(letter, 1111), 0);
        }
    }

    private static void setNoRow() {
        int[] rows = {-1, -4, -1111, 5, 9, 10, 15, 20, 40, 45, 50, 54, 51, 100, 101, 110, 145, 154, 415, 440, 444 + 1,
            511, 999, 1000, 1110, 1101, 1011, 1115, 1151, 1511, 4440, 4404, 4044, 4445, 4454, 4544, 5111, 5444, 9999,
            10000, 11111, 11112, 44444, 111111, 1111111111, Integer.MIN_VALUE, Integer.MAX_VALUE};
        for (int row : rows) {
            Check.refusedArgument("row " + row, Check::busy, x -> x.setLetter(0, row));
        }
        for (int first = 0; first <= 11200; first += 400) {
            rowsFrom(first);
        }
    }

    /** 400 rows, right and wrong ones, on an object of their own. */
    private static void rowsFrom(int first) {
        KnotLetters x = new KnotLetters();
        for (int row = first; row < first + 400; row++) {
            boolean isSet = true;
            try {
                x.setLetter(3, row);
            } catch (IllegalArgumentException e) {
                isSet = false;
            }
            Check.same("row " + row + " is one", isSet ? 1 : 0, row == 0 || Model.isRow(row) ? 1 : 0);
        }
    }

    private static void rowAndKnots() {
        int[] rows = {0, 1, 4, 11, 44, 111, 444, 1111, 4444};
        int[] knots = {0, 1, 1, 2, 2, 3, 3, 4, 4};
        KnotLetters x = new KnotLetters();
        for (int i = 0; i < rows.length; i++) {
            x.setLetter(11, rows[i]);
            Check.same("row " + rows[i], x.letter(11, 0), rows[i]);
            Check.same("knots of " + rows[i], x.letter(11, 1), knots[i]);
            Check.same("not tied", x.letter(11, 2), 0);
        }
    }

    private static void tiedInAll() {
        KnotLetters x = Check.letters(12, 3);
        x.setLetter(11, 4);
        Check.tied(x, "abba l");
        Check.tied(x, "la");
        Check.same("of two cords", x.letter(0, 2), 3);
        Check.same("of one cord", x.letter(1, 2), 2);
        Check.same("the last letter", x.letter(11, 2), 2);
        Check.same("never", x.letter(2, 2), 0);
        Check.same("not with what is not tied", Check.tied(x, "ac"), -1);
        x.trim(0);
        Check.tape(x, "a".repeat(21));
        Check.throwsState(x, "nor with what is too long", x::tie);
        Check.same("as often as before", x.letter(0, 2), 3);
        x.setLetter(0, 0);
        Check.same("in all, also of no row", x.letter(0, 2), 3);
        x.setLetter(0, 1);
        x.trim(1);
        x.tie();
        Check.same("in all, also of another row", x.letter(0, 2), 4);
    }

    private static void tiedAllLeftOut() {
        KnotLetters x = Check.letters(1, 1234);
        x.setKnotter(0, 1);
        Check.tied(x, "aba");
        Check.same("nothing is on the cord", x.cord(0, 0), 0);
        Check.same("tied twice", x.letter(0, 2), 2);
        Check.same("tied once", x.letter(1, 2), 1);
    }

    private static void noSuchLetterOrWhat() {
        for (int letter : NO_LETTERS) {
            Check.refusedIndex("letter " + letter, Check::busy, x -> x.letter(letter, 0));
            Check.refusedIndex("letter " + letter + " and what", Check::busy, x -> x.letter(letter, 3));
        }
        int[] whats = {-1, 3, Integer.MIN_VALUE, Integer.MAX_VALUE};
        for (int what : whats) {
            Check.refusedIndex("what " + what, Check::busy, x -> x.letter(0, what));
            Check.refusedIndex("what " + what + " of a letter without knots", Check::busy, x -> x.letter(2, what));
        }
    }

    private static void beginnings() {
        int[] row = {1, 12, 123, 1234};
        for (int shorter = 0; shorter < 4; shorter++) {
            for (int longer = shorter + 1; longer < 4; longer++) {
                KnotLetters x = new KnotLetters();
                x.setLetter(0, row[longer]);
                Check.holds("one letter alone", x.isFree());
                x.setLetter(11, row[shorter]);
                Check.fails(row[shorter] + " begins " + row[longer] + ", the last letter the first one", x.isFree());
                x.setLetter(0, row[shorter]);
                x.setLetter(11, row[longer]);
                Check.fails(row[shorter] + " begins " + row[longer] + ", the first letter the last one", x.isFree());
                x.setLetter(0, row[longer] - row[longer] / 10 * 10 == 1 ? 2 : 4321);
                Check.holds("another one", x.isFree());
            }
        }
        Check.holds("an end is no beginning", Check.letters(4, 34, 234, 1234).isFree());
        Check.holds("nor is the middle", Check.letters(1221, 22, 21).isFree());
        Check.holds("nor are the same digits", Check.letters(21, 1112, 112, 12).isFree());
    }

    private static void sameRows() {
        for (int a = 0; a < 12; a++) {
            for (int b = a + 1; b < 12; b++) {
                KnotLetters x = new KnotLetters();
                x.setLetter(a, 23);
                x.setLetter(b, 23);
                Check.fails("the same row of " + a + " and " + b, x.isFree());
                Check.fails("the same row of " + a + " and " + b, x.isClear());
                x.setLetter(a, 22);
                Check.holds("other rows of " + a + " and " + b, x.isFree());
                Check.holds("other rows of " + a + " and " + b, x.isClear());
            }
        }
        int[] rows = {1, 44, 213, 4444};
        for (int row : rows) {
            KnotLetters x = new KnotLetters();
            x.setLetter(0, row);
            Check.holds("one letter with " + row, x.isFree());
            x.setLetter(11, row);
            Check.fails("two letters with " + row, x.isFree());
            x.setLetter(0, 0);
            Check.holds("letters without knots are not alike", x.isFree());
        }
    }

    private static void twoRowsOfLetters() {
        Check.holds("no letters", new KnotLetters().isClear());
        Check.holds("one letter", Check.letters(1).isClear());
        Check.holds("one letter of four equal knots", Check.letters(0, 1111).isClear());
        Check.fails("a and b", Check.letters(1111, 1111).isClear());
        Check.fails("a a and b", Check.letters(4, 44).isClear());
        Check.fails("a a a a and b", Check.letters(4444, 4).isClear());
        Check.fails("a a a and b b", Check.letters(11, 111).isClear());
        Check.fails("four a and three b", Check.letters(111, 1111).isClear());
        Check.fails("a b and b a", Check.letters(12, 1212).isClear());
        Check.holds("not free", Check.letters(1, 12).isClear());
        Check.holds("not free, each the beginning of the next one", Check.letters(1, 12, 122, 1222).isClear());
        Check.holds("rests go on without an end", Check.letters(1, 12, 22).isClear());
        KnotLetters last = new KnotLetters();
        last.setLetter(10, 12);
        last.setLetter(11, 12);
        Check.fails("the last two letters", last.isClear());
        last.setLetter(10, 0);
        Check.holds("one of them has none", last.isClear());
    }

    private static void howeverLong() {
        int[] rows = {4324, 1432, 1, 1311, 3243, 3114, 2233, 2122, 3313, 2421, 423, 4413};
        String knots = "1311432431143243242122331311";
        KnotLetters x = Check.letters(rows);
        Check.fails("28 knots are read in two ways", x.isClear());
        Check.cordOf(x, knots);
        Check.same("in two ways", x.cord(0, 6), 2);
        for (int letter = 0; letter < 12; letter++) {
            int row = x.setLetter(letter, 0);
            boolean isNeeded = x.cord(0, 6) < 2;
            Check.same("without letter " + letter, x.isClear() ? 1 : 0, isNeeded ? 1 : 0);
            x.setLetter(letter, row);
        }
        Check.fails("with all of them", x.isClear());
        Check.fails("many rests", Check.letters(4243, 343, 24, 2, 4422, 4132, 1, 434, 344, 423, 14).isClear());
    }

    private static void equalKindsOnly() {
        KnotLetters x = Check.letters(1, 2, 34, 3324);
        for (int a = 1; a <= 4; a++) {
            for (int b = a + 1; b <= 4; b++) {
                x.setFeel(a, b, 0);
            }
        }
        Check.same("they cost nothing", x.alike(0, 1), 0);
        Check.holds("all are different", x.isClear());
        Check.holds("so is their beginning", x.isFree());
        x.setLetter(4, 12);
        Check.fails("equal kinds", x.isClear());
        x.setFeel(1, 2, 9);
        Check.fails("whatever costs tell", x.isClear());
    }

    private static void fromOneToOther() {
        KnotLetters x = Check.letters(1111, 2, 0, 2222);
        x.setLetter(11, 1);
        x.setCosts(1, 9);
        Check.same("to itself", x.alike(11, 11), 0);
        Check.same("three are missed", x.alike(0, 11), 3);
        Check.same("three ghosts", x.alike(11, 0), 27);
        Check.same("all are taken", x.alike(0, 3), 12);
        x.setFeel(1, 2, 0);
        Check.same("other kinds that cost nothing", x.alike(0, 3), 0);
        x.setFeel(1, 2, 9);
        x.setCosts(9, 9);
        Check.same("the greatest distance of two letters", x.alike(0, 3), 36);
        Check.same("taken and missed", x.alike(0, 1), 36);
    }

    private static void alikeToNone() {
        KnotLetters x = Check.letters(1);
        Check.same("the other one", x.alike(0, 1), -1);
        Check.same("the one", x.alike(1, 0), -1);
        Check.same("both", x.alike(1, 2), -1);
        Check.same("one and itself", x.alike(11, 11), -1);
        Check.same("none of them", x.alike(0, 0), 0);
    }

    private static void noPair() {
        for (int letter : NO_LETTERS) {
            Check.refusedIndex("a " + letter, Check::busy, x -> x.alike(letter, 0));
            Check.refusedIndex("b " + letter, Check::busy, x -> x.alike(0, letter));
            Check.refusedIndex("b " + letter + ", a has no knots", Check::busy, x -> x.alike(2, letter));
            Check.refusedIndex("both " + letter, Check::busy, x -> x.alike(letter, letter));
        }
    }

    private static void leastFromAToB() {
        KnotLetters x = Check.letters(11, 1, 0, 444);
        x.setCosts(9, 1);
        Check.same("9 from a to b, 7 from a to d, 5 from b to d", x.closest(), 12 + 3);
        x.setCosts(1, 9);
        Check.same("1 from a to b, 15 from a to d, 21 from b to d", x.closest(), 1);
    }

    private static void twelveTimes() {
        KnotLetters x = new KnotLetters();
        x.setLetter(11, 1);
        x.setLetter(10, 2);
        Check.same("the last pair", x.closest(), 131);
        x.setLetter(0, 1);
        Check.same("the first and the last letter", x.closest(), 11);
        x.setLetter(1, 1);
        Check.same("the first pair", x.closest(), 1);
    }

    private static void leastNumber() {
        KnotLetters x = Check.letters(1, 1, 1, 1);
        Check.same("all are the same", x.closest(), 1);
        x.setLetter(0, 4444);
        Check.same("the same b, c and d", x.closest(), 12 + 2);
        x.setLetter(1, 4444);
        Check.same("two pairs of distance 0", x.closest(), 1);
        x.setLetter(1, 0);
        Check.same("one pair of distance 0", x.closest(), 2 * 12 + 3);
    }

    private static void noTwoLetters() {
        KnotLetters x = new KnotLetters();
        Check.same("no letter", x.closest(), -1);
        x.setLetter(0, 1);
        Check.same("the first letter alone", x.closest(), -1);
        x.setLetter(0, 0);
        x.setLetter(11, 1);
        Check.same("the last letter alone", x.closest(), -1);
        x.setLetter(0, 4444);
        Check.same("two", x.closest(), 11);
        x.setLetter(11, 0);
        Check.same("one again", x.closest(), -1);
    }

    private static void orderOfRows() {
        KnotLetters x = new KnotLetters();
        int[] due = {1, 2, 3, 4};
        for (int i = 0; i < 4; i++) {
            Check.same("one knot", x.advise(), due[i]);
            x.setLetter(i, due[i]);
        }
        Check.same("3 ahead of 11", Check.letters(1, 2).advise(), 3);
        Check.same("two knots ahead of three", Check.letters(2, 3, 4, 111, 121).advise(), 13);
        Check.same("three knots", Check.letters(2, 3, 4, 11, 12, 13, 141).advise(), 142);
        Check.same("the first one of two knots", Check.letters(12, 2, 3, 4).advise(), 11);
        Check.same("the last one of two knots", Check.letters(1, 2, 3, 41, 42, 43).advise(), 44);
        Check.same("the first one of three knots", Check.letters(1112, 12, 13, 14, 2, 3, 4).advise(), 112);
        Check.same("the first one of four knots",
                Check.letters(1112, 112, 113, 114, 12, 13, 14, 2, 3, 4).advise(), 1111);
        Check.same("the last one of three knots", Check.letters(1, 2, 3, 41, 42, 43, 441, 442, 443).advise(), 444);
    }

    private static void neitherBeginning() {
        Check.same("the same row", Check.letters(1).advise(), 2);
        Check.same("beginnings of rows", Check.letters(1444, 244, 34).advise(), 4);
        Check.same("beginnings of all kinds", Check.letters(11, 244, 3444, 4444).advise(), 12);
        Check.same("begins with one", Check.letters(1, 2, 3, 411, 421).advise(), 43);
        Check.same("begins with one of three knots", Check.letters(1, 2, 3, 41, 42, 43, 441, 442, 443, 4441).advise(),
                4442);
        KnotLetters x = Check.letters(1, 2, 3);
        Check.same("the last one", x.advise(), 4);
        x.setLetter(11, 4444);
        Check.same("the last letter, too", x.advise(), 41);
    }

    private static void noFreeRow() {
        Check.same("each row begins with a letter", Check.letters(1, 2, 3, 4).advise(), 0);
        Check.same("two knots", Check.letters(1, 2, 3, 41, 42, 43, 44).advise(), 0);
        Check.same("three knots", Check.letters(1, 2, 3, 41, 42, 43, 441, 442, 443, 444).advise(), 0);
        int[] rows = {1, 2, 3, 41, 42, 43, 441, 442, 443, 4441, 4442, 4443};
        Check.same("4444 is left", Check.letters(rows).advise(), 4444);
        rows[0] = 14;
        Check.same("of fewer knots", Check.letters(rows).advise(), 11);
        rows[0] = 2;
        rows[1] = 1;
        rows[6] = 44;
        Check.same("twelve letters, and none is left", Check.letters(rows).advise(), 0);
        KnotLetters x = Check.letters(1, 2, 3, 4);
        x.setLetter(3, 4444);
        Check.same("one is left again", x.advise(), 41);
    }

    private static void meanOfSome() {
        Check.sameDouble("the least", Check.letters(1).mean(), 1);
        Check.sameDouble("the greatest", Check.letters(4444, 0, 1234).mean(), 4);
        Check.sameDouble("one and a half", Check.letters(1, 22).mean(), 1.5);
        Check.sameDouble("a third", Check.letters(1, 22, 0, 3).mean(), 4.0 / 3);
        Check.sameDouble("all letters", Check.letters(1, 2, 3, 4, 1, 2, 3, 4, 1, 2, 3, 44).mean(), 13.0 / 12);
        KnotLetters x = new KnotLetters();
        x.setLetter(11, 444);
        Check.sameDouble("the last letter", x.mean(), 3);
    }

    private static void meanOfNone() {
        KnotLetters x = new KnotLetters();
        Check.sameDouble("a new object", x.mean(), 0);
        x.setLetter(0, 44);
        x.setLetter(0, 0);
        Check.sameDouble("none again", x.mean(), 0);
    }
}
