/** Promises 9 to 14: the knotter, the costs, the tape and what is tied of it. */
public final class KnotterTest {
    public static void main(String[] args) {
        setKnotter();
        errs();
        setFeel();
        setCosts();
        feed();
        trim();
        tie();
        notTied();
        tooLong();
        Check.end("KnotterTest");
    }

    private static void setKnotter() {
        KnotLetters x = new KnotLetters();
        Check.same("P9 first", x.setKnotter(99, 0), 0);
        Check.same("P9 slip before", x.setKnotter(0, 99), 9900);
        Check.same("P9 skip before", x.setKnotter(12, 34), 99);
        Check.same("P9 both before", x.setKnotter(0, 0), 1234);
        int[] wrong = {-1, 100, Integer.MIN_VALUE, Integer.MAX_VALUE};
        for (int w : wrong) {
            Check.throwsArgument(x, "P9 slip " + w, () -> x.setKnotter(w, 0));
            Check.throwsArgument(x, "P9 skip " + w, () -> x.setKnotter(0, w));
        }
    }

    private static void errs() {
        KnotLetters x = Check.letters(1234, 4);
        x.setKnotter(2, 0);
        Check.tied(x, "a b");
        Check.sameText("P14 slips", Check.knots(x, 0), "133154");
        Check.tied(x, "b");
        Check.sameText("P9 counted on, 4 slips to 1", Check.knots(x, 1), "1");
        x.setKnotter(2, 3);
        Check.tied(x, "aa");
        Check.sameText("P14 skips ahead of slips", Check.knots(x, 2), "131131");
        Check.same("P15 slips of a cord", x.cord(2, 2), 3);
        Check.same("P15 left out of a cord", x.cord(2, 3), 2);
        Check.same("P22 slips", x.count(3), 6);
        Check.same("P22 left out", x.count(4), 2);
        Check.same("P22 to be tied", x.count(2), 14);
        x.setKnotter(0, 1);
        Check.same("P14 all left out", Check.tied(x, "ba"), 3);
        Check.same("P14 all left out", x.cord(3, 0), 0);
        Check.same("P14 all left out", x.cord(3, 3), 5);
        x.setKnotter(1, 0);
        Check.tied(x, "ab");
        Check.sameText("P14 all slip", Check.knots(x, 4), "23411");
        x.setKnotter(0, 0);
        Check.tied(x, "ab");
        Check.sameText("P14 never", Check.knots(x, 5), "12344");
    }

    private static void setFeel() {
        KnotLetters x = Check.letters(1, 2, 3, 4);
        Check.same("P10 first", x.setFeel(1, 2, 9), 3);
        Check.same("P10 both ways", x.setFeel(2, 1, 0), 9);
        Check.same("P10 again", x.setFeel(1, 2, 5), 0);
        Check.same("P10 others stay", x.setFeel(3, 4, 7), 3);
        Check.same("P10 used", x.alike(0, 1), 5);
        Check.same("P10 used", x.alike(1, 0), 5);
        Check.same("P10 used", x.alike(3, 2), 7);
        Check.same("P10 used", x.alike(1, 2), 3);
        int[] kinds = {-1, 0, 5, Integer.MIN_VALUE, Integer.MAX_VALUE};
        for (int kind : kinds) {
            Check.throwsArgument(x, "P10 a " + kind, () -> x.setFeel(kind, 1, 1));
            Check.throwsArgument(x, "P10 b " + kind, () -> x.setFeel(1, kind, 1));
        }
        for (int kind = 1; kind <= 4; kind++) {
            int both = kind;
            Check.throwsArgument(x, "P10 both " + kind, () -> x.setFeel(both, both, 0));
        }
        int[] costs = {-1, 10, Integer.MIN_VALUE, Integer.MAX_VALUE};
        for (int cost : costs) {
            Check.throwsArgument(x, "P10 cost " + cost, () -> x.setFeel(1, 2, cost));
        }
    }

    private static void setCosts() {
        KnotLetters x = Check.letters(1, 12);
        Check.same("P11 first", x.setCosts(1, 9), 44);
        Check.same("P11 before", x.setCosts(9, 1), 19);
        Check.same("P11 before", x.setCosts(2, 5), 91);
        Check.same("P11 ghost", x.alike(0, 1), 5);
        Check.same("P11 missed", x.alike(1, 0), 2);
        int[] wrong = {-1, 0, 10, Integer.MIN_VALUE, Integer.MAX_VALUE};
        for (int w : wrong) {
            Check.throwsArgument(x, "P11 missed " + w, () -> x.setCosts(w, 1));
            Check.throwsArgument(x, "P11 ghost " + w, () -> x.setCosts(1, w));
        }
    }

    private static void feed() {
        KnotLetters x = Check.letters(1, 2, 3, 4, 11, 22, 33, 44, 12, 23, 34, 41);
        Check.same("P12 twenty", x.feed(0x61626364, 0x65666768, 0x696a6b6c, 0x20612020, 0x62206320), 20);
        Check.same("P12 all are tied", x.tie(), 0);
        Check.sameText("P12 in their order", Check.knots(x, 0), "1234" + "11223344" + "12233441" + "5155" + "2535");
        Check.same("P12 empty tape", x.feed(-1, -1, -1, -1, -1), 20);
        Check.same("P12 forty", x.feed(0, 0, 0, 0, 0), 40);
        Check.same("P12 sixty", x.feed(0, 0, 0, 0, 0), 60);
        Check.same("P12 eighty", x.feed(0, 0, 0, 0, 0), 80);
        Check.throwsState(x, "P12 hundred", () -> x.feed(1, 2, 3, 4, 5));
        x.trim(61);
        Check.throwsState(x, "P12 81", () -> x.feed(1, 2, 3, 4, 5));
        x.trim(60);
        Check.same("P12 eighty again", x.feed(1, 2, 3, 4, 5), 80);
        Check.same("P22 bytes of the tape", x.count(5), 80);
        x.trim(0);
        x.feed(0xe1202020, 0, 0, 0, 0);
        x.trim(1);
        Check.same("P12 a byte above 127 is no letter", x.tie(), -1);
    }

    private static void trim() {
        KnotLetters x = Check.letters(1, 2);
        Check.same("P13 empty", x.trim(0), 0);
        Check.throwsArgument(x, "P13 empty", () -> x.trim(1));
        Check.tape(x, "abab");
        Check.throwsArgument(x, "P13 below", () -> x.trim(-1));
        Check.throwsArgument(x, "P13 above", () -> x.trim(5));
        Check.throwsArgument(x, "P13 far", () -> x.trim(Integer.MIN_VALUE));
        Check.throwsArgument(x, "P13 far", () -> x.trim(Integer.MAX_VALUE));
        Check.same("P13 all", x.trim(4), 4);
        Check.same("P13 three", x.trim(3), 3);
        Check.same("P22 bytes of the tape", x.count(5), 3);
        x.tie();
        Check.sameText("P13 the first bytes", Check.knots(x, 0), "121");
    }

    private static void tie() {
        KnotLetters x = Check.letters(12, 3);
        Check.same("P14 empty", x.tie(), 0);
        Check.same("P14 empty", x.cord(0, 0), 0);
        Check.same("P14 next", Check.tied(x, " a b  "), 1);
        Check.sameText("P14 gaps", Check.knots(x, 1), "5125355");
        Check.same("P14 gaps", x.cord(1, 1), 4);
        Check.same("P14 the tape is empty", x.count(5), 0);
        Check.same("P14 gaps do not count", x.count(2), 3);
        for (int cord = 2; cord < 10; cord++) {
            Check.same("P14 number", Check.tied(x, "b"), cord);
        }
        Check.same("P22 cords", x.count(1), 10);
        Check.throwsState(x, "P14 ten cords, empty tape", x::tie);
        Check.tape(x, "z");
        Check.throwsState(x, "P14 ten cords, ahead of -1", x::tie);
    }

    private static void notTied() {
        KnotLetters x = Check.letters(12, 3);
        String[] texts = {"c", "A", "a\n", "abm", "`", "\u00e1", "l", "\0", "a!"};
        for (String text : texts) {
            x.trim(0);
            Check.tape(x, text);
            Check.same("P14 " + text, x.tie(), -1);
            Check.same("P14 no cord", x.count(1), 0);
            Check.same("P14 no knot counted", x.count(2), 0);
            Check.same("P14 no letter tied", x.letter(0, 2), 0);
            Check.same("P14 the tape stays", x.count(5), text.length());
        }
        x.trim(1);
        x.setLetter(0, 0);
        Check.same("P14 a letter that lost its knots", x.tie(), -1);
        x.setLetter(0, 44);
        Check.same("P14 a letter that got other ones", x.tie(), 0);
        Check.sameText("P14 other ones", Check.knots(x, 0), "44");
    }

    private static void tooLong() {
        KnotLetters x = Check.letters(1234, 12, 1);
        String forty = "aaaaaaaaaa";
        Check.same("P14 forty knots", Check.tied(x, forty), 0);
        Check.same("P14 forty knots", x.cord(0, 0), 40);
        Check.same("P14 forty gaps", Check.tied(x, " ".repeat(40)), 1);
        Check.same("P14 forty gaps", x.cord(1, 1), 40);
        Check.tape(x, forty + "c");
        Check.throwsState(x, "P14 41 knots", x::tie);
        x.setKnotter(0, 1);
        Check.throwsState(x, "P14 41 knots, those that are left out counted", x::tie);
        x.trim(0);
        Check.tape(x, forty + " ");
        Check.throwsState(x, "P14 40 knots and a gap", x::tie);
        x.trim(0);
        Check.tape(x, forty + "zzz");
        Check.same("P14 a byte for which -1 is told counts nothing", x.tie(), -1);
        x.trim(0);
        Check.tape(x, "z" + forty + "b");
        Check.throwsState(x, "P14 too long, ahead of -1", x::tie);
        x.trim(0);
        Check.tape(x, " ".repeat(80));
        Check.throwsState(x, "P14 eighty gaps", x::tie);
        x.trim(0);
        Check.tape(x, "z".repeat(80));
        Check.same("P14 eighty others", x.tie(), -1);
    }
}
