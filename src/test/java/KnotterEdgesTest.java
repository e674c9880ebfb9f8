/** Promises 9 to 14: a test for each sentence that names a boundary. */
public final class KnotterEdgesTest {
    public static void main(String[] args) {
        Check.sentence("P9: Sets how the knotter errs; the knots are counted on.", KnotterEdgesTest::countedOn);
        Check.sentence("P9: Returns 100 * the slip before, and the skip before.", KnotterEdgesTest::knotterBefore);
        Check.sentence("P9: Throws IllegalArgumentException if slip or skip is not 0 to 99",
                KnotterEdgesTest::noKnotter);
        Check.sentence("P10: for one of another kind, and the other way round", KnotterEdgesTest::bothWays);
        Check.sentence("P10: Returns the cost before.", KnotterEdgesTest::costBefore);
        Check.sentence("P10: Throws IllegalArgumentException if a or b is not 1 to 4, both are the same, or cost is"
                + " not 0 to 9", KnotterEdgesTest::noFeel);
        Check.sentence("P11: Returns 10 * the one before, and the other one before.", KnotterEdgesTest::costsBefore);
        Check.sentence("P11: Throws IllegalArgumentException if missed or ghost is not 1 to 9",
                KnotterEdgesTest::noCosts);
        Check.sentence("P12: the four bytes of each number, the highest one first", KnotterEdgesTest::highestFirst);
        Check.sentence("P12: Returns the number of bytes of the tape.", KnotterEdgesTest::bytesFed);
        Check.sentence("P12: Throws IllegalStateException if there would be more than 80",
                KnotterEdgesTest::moreThanEighty);
        Check.sentence("P13: Shortens the tape to its first bytes.", KnotterEdgesTest::firstBytes);
        Check.sentence("P13: Returns n.", KnotterEdgesTest::trimReturns);
        Check.sentence("P13: Throws IllegalArgumentException if n is not 0 to the number of bytes of the tape",
                KnotterEdgesTest::noTrim);
        tying();
        Check.end("KnotterEdgesTest");
    }

    private static void tying() {
        Check.sentence("P14: its letters, with a gap for each blank", KnotterEdgesTest::lettersAndGaps);
        Check.sentence("P14: (of an empty tape a cord without knots)", KnotterEdgesTest::emptyTape);
        Check.sentence("P14: The tape is empty then.", KnotterEdgesTest::emptyThen);
        Check.sentence("P14: Returns the number of the cord", KnotterEdgesTest::cordNumbers);
        Check.sentence("P14: -1 if the tape has a byte that is neither a blank nor a letter with knots",
                KnotterEdgesTest::noText);
        Check.sentence("P14: (then nothing is tied, no knot counted, and the tape stays)",
                KnotterEdgesTest::nothingIsTied);
        Check.sentence("P14: Throws IllegalStateException if there are 10 cords", KnotterEdgesTest::tenCords);
        Check.sentence("P14: or it would have more than 40 knots and gaps", KnotterEdgesTest::moreThanForty);
        Check.sentence("P14: those that are left out counted", KnotterEdgesTest::leftOutCounted);
        Check.sentence("P14: (a byte for which -1 would be told counts nothing", KnotterEdgesTest::countsNothing);
        Check.sentence("P14: this is thrown also if -1 would be told)", KnotterEdgesTest::thrownAlso);
    }

    private static KnotLetters fed(String tape, int... rows) {
        KnotLetters x = Check.letters(rows);
        Check.tape(x, tape);
        return x;
    }

    private static void countedOn() {
        KnotLetters x = Check.letters(1, 11);
        Check.tied(x, "aaa");
        x.setKnotter(4, 0);
        Check.tied(x, "aa");
        Check.sameText("the fourth one slips", Check.knots(x, 0) + Check.knots(x, 1), "11121");
        x.setKnotter(0, 3);
        x.setKnotter(0, 3);
        Check.tied(x, "bb");
        Check.same("the sixth and the ninth one are left out", x.cord(2, 0), 2);
        x.setKnotter(5, 0);
        Check.tied(x, "a");
        Check.sameText("the tenth one, those that are left out are counted", Check.knots(x, 3), "2");
        Check.same("to be tied", x.count(2), 10);
    }

    private static void knotterBefore() {
        KnotLetters x = new KnotLetters();
        Check.same("none at first", x.setKnotter(99, 99), 0);
        Check.same("the greatest", x.setKnotter(0, 99), 9999);
        Check.same("skip alone", x.setKnotter(99, 0), 99);
        Check.same("slip alone", x.setKnotter(1, 2), 9900);
        Check.same("both", x.setKnotter(0, 0), 102);
        Check.same("none again", x.setKnotter(0, 0), 0);
    }

    private static void noKnotter() {
        int[] wrong = {-1, 100, 101, 255, Integer.MIN_VALUE, Integer.MAX_VALUE};
        for (int w : wrong) {
            Check.refusedArgument("slip " + w, Check::busy, x -> x.setKnotter(w, 1));
            Check.refusedArgument("skip " + w, Check::busy, x -> x.setKnotter(1, w));
            Check.refusedArgument("both " + w, Check::busy, x -> x.setKnotter(w, w));
        }
    }

    private static void bothWays() {
        KnotLetters x = Check.letters(1, 4);
        x.setCosts(9, 9);
        x.setFeel(4, 1, 0);
        Check.same("1 for 4", x.alike(0, 1), 0);
        Check.same("4 for 1", x.alike(1, 0), 0);
        x.setFeel(1, 4, 9);
        Check.same("1 for 4", x.alike(0, 1), 9);
        Check.same("4 for 1", x.alike(1, 0), 9);
    }

    private static void costBefore() {
        KnotLetters x = new KnotLetters();
        for (int a = 1; a <= 4; a++) {
            for (int b = a + 1; b <= 4; b++) {
                Check.same("3 at first", x.setFeel(b, a, 9), 3);
                Check.same("the greatest", x.setFeel(a, b, 0), 9);
                Check.same("the least", x.setFeel(b, a, a + b), 0);
            }
        }
        for (int a = 1; a <= 4; a++) {
            for (int b = 1; b <= 4; b++) {
                if (a != b) {
                    Check.same("each pair its own cost", x.setFeel(a, b, a + b), a + b);
                }
            }
        }
    }

    private static void noFeel() {
        int[] kinds = {-1, 0, 5, 6, Integer.MIN_VALUE, Integer.MAX_VALUE};
        for (int kind : kinds) {
            Check.refusedArgument("a " + kind, Check::busy, x -> x.setFeel(kind, 1, 1));
            Check.refusedArgument("b " + kind, Check::busy, x -> x.setFeel(1, kind, 1));
            Check.refusedArgument("both " + kind, Check::busy, x -> x.setFeel(kind, kind, 1));
        }
        for (int kind = 1; kind <= 4; kind++) {
            int both = kind;
            Check.refusedArgument("both the same, " + kind, Check::busy, x -> x.setFeel(both, both, 0));
        }
        int[] costs = {-1, 10, Integer.MIN_VALUE, Integer.MAX_VALUE};
        for (int cost : costs) {
            Check.refusedArgument("cost " + cost, Check::busy, x -> x.setFeel(1, 4, cost));
            Check.refusedArgument("cost " + cost + " of 4 and 1", Check::busy, x -> x.setFeel(4, 1, cost));
        }
    }

    private static void costsBefore() {
        KnotLetters x = new KnotLetters();
        Check.same("at first", x.setCosts(1, 1), 44);
        Check.same("the least", x.setCosts(9, 9), 11);
        Check.same("the greatest", x.setCosts(1, 9), 99);
        Check.same("a dear ghost", x.setCosts(9, 1), 19);
        Check.same("a dear missed one", x.setCosts(4, 4), 91);
    }

    private static void noCosts() {
        int[] wrong = {-1, 0, 10, 11, Integer.MIN_VALUE, Integer.MAX_VALUE};
        for (int w : wrong) {
            Check.refusedArgument("missed " + w, Check::busy, x -> x.setCosts(w, 1));
            Check.refusedArgument("ghost " + w, Check::busy, x -> x.setCosts(1, w));
            Check.refusedArgument("both " + w, Check::busy, x -> x.setCosts(w, w));
        }
    }

    private static void highestFirst() {
        KnotLetters x = Check.letters(1, 2, 3, 4);
        x.feed(0x61626364, 0x62636461, 0x63646162, 0x64616263, 0x20616220);
        x.tie();
        Check.sameText("twenty bytes", Check.knots(x, 0), "1234" + "2341" + "3412" + "4123" + "5125");
        int[] above = {0xe1e1e1e1, 0x80808080, 0xa0a0a0a0, -1, Integer.MIN_VALUE};
        for (int number : above) {
            x.feed(number, 0, 0, 0, 0);
            x.trim(1);
            Check.same("a byte above 127 is no letter, " + number, x.tie(), -1);
            x.trim(0);
        }
        int[] signs = {0x61, 0x6100, 0x610000, 0x61000000};
        for (int i = 0; i < 4; i++) {
            x.feed(signs[i] | 0x20202020 & ~(0xff << 8 * i), 0, 0, 0, 0);
            x.trim(4);
            Check.same("byte " + (4 - i), x.tie(), i + 1);
            Check.same("byte " + (4 - i), x.knot(i + 1, 3 - i), 1);
            Check.same("three others", x.cord(i + 1, 1), 3);
        }
    }

    private static void bytesFed() {
        KnotLetters x = new KnotLetters();
        Check.same("of an empty tape", x.feed(0, 0, 0, 0, 0), 20);
        Check.same("of twenty", x.feed(-1, -1, -1, -1, -1), 40);
        x.trim(1);
        Check.same("of one", x.feed(0, 0, 0, 0, 0), 21);
        x.trim(0);
        Check.same("of none", x.feed(0, 0, 0, 0, 0), 20);
    }

    private static void moreThanEighty() {
        for (int bytes = 61; bytes <= 80; bytes++) {
            String tape = "ab ".repeat(6) + "z".repeat(bytes - 18);
            Check.refusedState("bytes " + bytes, () -> fed(tape, 1, 2), x -> x.feed(0x61616161, 0, 0, 0, 0));
        }
        KnotLetters x = fed("z".repeat(60), 1);
        Check.same("just eighty", x.feed(0, 0, 0, 0, 0), 80);
        x.trim(60);
        Check.same("eighty again", x.feed(0, 0, 0, 0, 0), 80);
        x.trim(0);
        Check.same("twenty", x.feed(0x61616161, 0x61616161, 0x61616161, 0x61616161, 0x61616161), 20);
        Check.same("a full tape leaves nothing behind", x.tie(), 0);
        Check.sameText("knots", Check.knots(x, 0), "1".repeat(20));
    }

    private static void firstBytes() {
        for (int n = 0; n <= 6; n++) {
            KnotLetters x = fed("abcbac", 1, 2, 3);
            x.trim(n);
            Check.same("bytes", x.count(5), n);
            x.tie();
            Check.sameText("the first " + n, Check.knots(x, 0), "123213".substring(0, n));
        }
        KnotLetters x = fed("abc", 1, 2, 3);
        x.trim(2);
        x.feed(0x62620000, 0, 0, 0, 0);
        x.trim(4);
        x.tie();
        Check.sameText("others behind them", Check.knots(x, 0), "1222");
    }

    private static void trimReturns() {
        KnotLetters x = fed("z".repeat(80), 1);
        int[] lengths = {80, 79, 79, 1, 0, 0};
        for (int n : lengths) {
            Check.same("trim", x.trim(n), n);
            Check.same("count", x.count(5), n);
        }
    }

    private static void noTrim() {
        int[] sizes = {0, 1, 20, 80};
        for (int size : sizes) {
            int[] wrong = {-1, size + 1, 81, Integer.MIN_VALUE, Integer.MAX_VALUE};
            for (int n : wrong) {
                Check.refusedArgument("n " + n + " of " + size, () -> fed("a".repeat(size), 1), x -> x.trim(n));
            }
        }
        KnotLetters x = fed("aaa", 1);
        x.trim(2);
        Check.throwsArgument(x, "what was cut off does not come back", () -> x.trim(3));
    }

    private static void lettersAndGaps() {
        KnotLetters x = Check.letters(1234, 3);
        Check.tied(x, " ");
        Check.tied(x, "  a  b ");
        Check.sameText("a gap alone", Check.knots(x, 0), "5");
        Check.sameText("gaps ahead, between and behind", Check.knots(x, 1), "5512345535");
        Check.same("gaps", x.cord(1, 1), 5);
    }

    private static void emptyTape() {
        KnotLetters x = Check.letters(1);
        Check.same("first cord", x.tie(), 0);
        x.feed(-1, -1, -1, -1, -1);
        x.trim(0);
        Check.same("second cord", x.tie(), 1);
        for (int cord = 0; cord < 2; cord++) {
            for (int what = 0; what < 6; what++) {
                Check.same("cord " + cord + ", what " + what, x.cord(cord, what), 0);
            }
        }
        Check.same("no knots", x.count(2), 0);
    }

    private static void emptyThen() {
        KnotLetters x = fed("aa", 1);
        Check.same("ahead", x.count(5), 2);
        x.tie();
        Check.same("behind", x.count(5), 0);
        Check.throwsArgument(x, "nothing is kept", () -> x.trim(1));
        Check.same("feed", x.feed(0x61206120, 0x20202020, 0x20202020, 0x20202020, 0x20202020), 20);
        x.tie();
        Check.sameText("others", Check.knots(x, 1), "1515" + "5".repeat(16));
    }

    private static void cordNumbers() {
        KnotLetters x = Check.letters(1);
        for (int cord = 0; cord < 10; cord++) {
            Check.same("not tied", Check.tied(x, "b"), -1);
            x.trim(0);
            Check.same("tied", Check.tied(x, "a"), cord);
        }
        Check.same("cords", x.count(1), 10);
    }

    private static void noText() {
        String[] texts = {"b", "ab", "ba", "aba", "A", "a\u0000", "a`", "am", "al", "a!", "\u001fa", "a\u007f",
            "a\u00e1", "\u00a0", "\u00ff", "a-a", "\n"};
        for (String text : texts) {
            KnotLetters x = fed(text, 1);
            Check.same(text, x.tie(), -1);
            Check.same("again", x.tie(), -1);
        }
        KnotLetters x = fed("abl", 1, 2);
        Check.same("the last letter without knots", x.tie(), -1);
        x.setLetter(11, 4);
        Check.same("it has some now", x.tie(), 0);
        Check.sameText("knots", Check.knots(x, 0), "124");
        for (int sign = 0; sign < 256; sign++) {
            KnotLetters y = new KnotLetters();
            y.feed(sign << 24, 0, 0, 0, 0);
            y.trim(1);
            Check.same("sign " + sign + ", no letter has knots", y.tie(), sign == 32 ? 0 : -1);
        }
    }

    private static void nothingIsTied() {
        KnotLetters x = Check.letters(1, 22);
        x.setKnotter(4, 0);
        Check.tied(x, "ab");
        Check.tape(x, "bab ac");
        Check.same("not tied", x.tie(), -1);
        Check.same("not tied again", x.tie(), -1);
        Check.same("bytes", x.count(5), 6);
        Check.same("cords", x.count(1), 1);
        Check.same("knots", x.count(2), 3);
        Check.same("slips", x.count(3), 0);
        Check.same("letters", x.letter(0, 2) + 10 * x.letter(1, 2), 11);
        x.trim(5);
        Check.same("without the last byte", x.tie(), 1);
        Check.sameText("the fourth knot and the eighth one slip", Check.knots(x, 1), "3212351");
    }

    private static void tenCords() {
        String[] tapes = {"", "a", "b", " ", "a".repeat(40), "a".repeat(41)};
        for (String tape : tapes) {
            Check.refusedState("tape " + tape, () -> withCords(10, tape), KnotLetters::tie);
        }
        Check.same("nine are not too many", withCords(9, "a").tie(), 9);
        Check.same("nine, an empty tape", withCords(9, "").tie(), 9);
        Check.same("nine, no text", withCords(9, "b").tie(), -1);
    }

    private static KnotLetters withCords(int cords, String tape) {
        KnotLetters x = Check.letters(1);
        for (int cord = 0; cord < cords; cord++) {
            x.tie();
        }
        Check.tape(x, tape);
        return x;
    }

    private static void moreThanForty() {
        String[] forty = {"a".repeat(40), " ".repeat(40), "d".repeat(10), "dddddddddc ", "a ".repeat(20),
            "dddddddddbb", "c".repeat(12) + "b a"};
        for (String text : forty) {
            Check.same("places of " + text, placesTied(fed(text, 1, 22, 333, 4444)), 40);
            Check.refusedState("a letter more than " + text, () -> fed(text + "a", 1, 22, 333, 4444),
                    KnotLetters::tie);
            Check.refusedState("a gap more than " + text, () -> fed(" " + text, 1, 22, 333, 4444), KnotLetters::tie);
            Check.refusedState("four more than " + text, () -> fed("d" + text, 1, 22, 333, 4444), KnotLetters::tie);
        }
        Check.refusedState("eighty gaps", () -> fed(" ".repeat(80), 1), KnotLetters::tie);
        Check.refusedState("eighty letters of four knots", () -> fed("a".repeat(80), 1111), KnotLetters::tie);
        KnotLetters x = fed("a".repeat(80), 1111);
        x.setLetter(0, 1);
        Check.throwsState(x, "eighty knots", x::tie);
        x.trim(41);
        Check.throwsState(x, "41 knots", x::tie);
        x.trim(40);
        Check.same("forty knots", x.tie(), 0);
    }

    private static int placesTied(KnotLetters x) {
        Check.same("tied", x.tie(), 0);
        return x.cord(0, 0);
    }

    private static void leftOutCounted() {
        KnotLetters x = Check.letters(1111, 1);
        x.setKnotter(0, 1);
        Check.same("forty are left out", Check.tied(x, "aaaaaaaaaa"), 0);
        Check.same("left out", x.cord(0, 3), 40);
        Check.same("none is there", x.cord(0, 0), 0);
        Check.refusedState("41 are left out", () -> leavingOut(1, "aaaaaaaaaab"), KnotLetters::tie);
        Check.refusedState("40 are left out, and a gap", () -> leavingOut(1, "aaaaaaaaaa "), KnotLetters::tie);
        Check.refusedState("20 of 41 are left out", () -> leavingOut(2, "aaaaaaaaaab"), KnotLetters::tie);
        Check.refusedState("one of 41 is left out", () -> leavingOut(41, "aaaaaaaaaab"), KnotLetters::tie);
        Check.same("one of 40 is left out", leavingOut(40, "aaaaaaaaaa").tie(), 0);
    }

    private static KnotLetters leavingOut(int skip, String tape) {
        KnotLetters x = fed(tape, 1111, 1);
        x.setKnotter(0, skip);
        return x;
    }

    private static void countsNothing() {
        String[] texts = {"d".repeat(10) + "z", "z" + "d".repeat(10), "a".repeat(40) + "e".repeat(40),
            " ".repeat(40) + "A".repeat(40), "z".repeat(80), "e".repeat(80), "\u0000".repeat(80), "\u00e4".repeat(80)};
        for (String text : texts) {
            KnotLetters x = fed(text, 1, 22, 333, 4444);
            Check.same("not too long: " + text, x.tie(), -1);
            Check.same("the tape stays", x.count(5), text.length());
        }
        KnotLetters x = fed("a".repeat(80), 1111);
        x.setLetter(0, 0);
        Check.same("letters that lost their knots", x.tie(), -1);
    }

    private static void thrownAlso() {
        String[] texts = {"d".repeat(10) + "az", "z" + "d".repeat(10) + " ", "a".repeat(41) + "e".repeat(39),
            "A".repeat(39) + " ".repeat(41), "e" + "d".repeat(79)};
        for (String text : texts) {
            Check.refusedState("too long, and no text: " + text, () -> fed(text, 1, 22, 333, 4444), KnotLetters::tie);
        }
        Check.refusedState("ten cords, and no text", () -> withCords(10, "z"), KnotLetters::tie);
    }
}
