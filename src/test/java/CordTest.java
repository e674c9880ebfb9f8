/** Promises 15 to 22 and 24: the cords, their distances, their readings, the counts and the checksum. */
public final class CordTest {
    public static void main(String[] args) {
        cord();
        bestReading();
        exactRows();
        manyRows();
        knot();
        retie();
        distance();
        nearest();
        read();
        byteAt();
        count();
        digest();
        Check.end("CordTest");
    }

    private static void cord() {
        KnotLetters x = Check.letters(12, 3);
        x.setKnotter(4, 3);
        Check.tied(x, " ab a ");
        Check.sameText("P15 knots and gaps", Check.knots(x, 0), "5125225");
        Check.same("P15 its knots and gaps", x.cord(0, 0), 7);
        Check.same("P15 its gaps", x.cord(0, 1), 3);
        Check.same("P15 slipped", x.cord(0, 2), 1);
        Check.same("P15 left out", x.cord(0, 3), 1);
        Check.tied(x, "");
        for (int what = 0; what < 6; what++) {
            Check.same("P15 empty", x.cord(1, what), 0);
        }
        Check.same("P15 empty: the empty row", x.cord(1, 6), 1);
        Check.throwsIndex(x, "P15 cord", () -> x.cord(-1, 0));
        Check.throwsIndex(x, "P15 cord", () -> x.cord(2, 0));
        Check.throwsIndex(x, "P15 cord", () -> x.cord(10, 0));
        Check.throwsIndex(x, "P15 cord", () -> x.cord(Integer.MAX_VALUE, 0));
        Check.throwsIndex(x, "P15 what", () -> x.cord(0, -1));
        Check.throwsIndex(x, "P15 what", () -> x.cord(0, 7));
    }

    private static void reading(KnotLetters x, String knots, String text, int cost) {
        int cord = Check.cordOf(x, knots);
        Check.sameText("P20 of " + knots, Check.read(x, cord), text);
        Check.same("P15 cost of " + knots, x.cord(cord, 4), cost);
        Check.same("P15 letters of " + knots, x.cord(cord, 5), text.replace(" ", "").length());
    }

    private static void bestReading() {
        KnotLetters x = Check.letters(1, 12, 2, 123);
        reading(x, "12", "b", 0);
        reading(x, "1212", "bb", 0);
        reading(x, "112312", "adb", 0);
        reading(x, "3", "a", 3);
        reading(x, "5", " ", 0);
        reading(x, "51552", " a  c", 0);
        KnotLetters none = new KnotLetters();
        reading(none, "1111", "", 16);
        reading(none, "15411", " ", 16);
        KnotLetters same = Check.letters(0, 0, 44, 0, 44, 4);
        reading(same, "4444", "cc", 0);
        reading(same, "444", "cf", 0);
        reading(same, "1", "f", 3);
        KnotLetters dear = Check.letters(1111, 22);
        dear.setCosts(9, 1);
        reading(dear, "3", "", 1);
        reading(dear, "1", "", 1);
        reading(dear, "31111332", "a", 4);
        reading(dear, "3232", "b", 2);
        reading(dear, "1323131", "a", 6);
        reading(dear, "13123131", "a", 4);
        KnotLetters ghosts = Check.letters(14, 3);
        ghosts.setCosts(9, 1);
        ghosts.setFeel(1, 2, 0);
        reading(ghosts, "12222222224", "a", 9);
        reading(ghosts, "2224", "a", 2);
        reading(ghosts, "22", "", 2);
        KnotLetters order = Check.letters(2, 1, 11);
        order.setFeel(1, 2, 0);
        reading(order, "1212", "cc", 0);
        reading(order, "121", "ac", 0);
        KnotLetters ties = Check.letters(12, 4, 24);
        ties.setCosts(4, 3);
        reading(ties, "1324", "ab", 3);
        KnotLetters late = Check.letters(12, 231, 3);
        reading(late, "1223", "acc", 3);
        late.setFeel(2, 3, 9);
        reading(late, "1223", "ab", 4);
        KnotLetters long0 = Check.letters(1);
        reading(long0, "1".repeat(40), "a".repeat(40), 0);
        long0.setFeel(1, 4, 9);
        long0.setCosts(1, 9);
        reading(long0, "4".repeat(40), "", 360);
        long0.setFeel(1, 4, 8);
        reading(long0, "4".repeat(40), "a".repeat(40), 320);
        reading(long0, "45".repeat(20), "a ".repeat(20), 160);
    }

    private static void exactRows() {
        KnotLetters x = Check.letters(1, 12, 2, 12);
        int cord = Check.cordOf(x, "12");
        Check.same("P15 rows", x.cord(cord, 6), 3);
        cord = Check.cordOf(x, "12512");
        Check.same("P15 rows of words", x.cord(cord, 6), 9);
        cord = Check.cordOf(x, "5125");
        Check.same("P15 rows of empty words", x.cord(cord, 6), 3);
        cord = Check.cordOf(x, "12355");
        Check.same("P15 no row", x.cord(cord, 6), 0);
        cord = Check.cordOf(x, "1212122");
        Check.same("P15 rows of a word", x.cord(cord, 6), 27);
        x.setFeel(2, 3, 0);
        cord = Check.cordOf(x, "13");
        Check.same("P15 kinds that cost nothing are different", x.cord(cord, 6), 0);
        x.setLetter(11, 13);
        Check.same("P15 last letter", x.cord(cord, 6), 1);
        KnotLetters ends = Check.letters(1, 11, 1111, 12);
        cord = Check.cordOf(ends, "1".repeat(40));
        Check.same("P15 rows of a full cord", ends.cord(cord, 6), 1000000);
        Check.cordOf(ends, "111511");
        Check.same("P15 no letter goes beyond a word", ends.cord(1, 6), 6);
        KnotLetters none = new KnotLetters();
        Check.cordOf(none, "1");
        Check.cordOf(none, "555");
        Check.same("P15 no letters", none.cord(0, 6), 0);
        Check.same("P15 no letters, no knots", none.cord(1, 6), 1);
    }

    private static void manyRows() {
        KnotLetters x = Check.letters(1, 1, 1, 1, 1, 1, 1, 1, 1, 1);
        int[] powers = {1, 10, 100, 1000, 10000, 100000, 1000000, 1000000, 1000000};
        Check.cordOf(x, "");
        for (int knots = 1; knots < 9; knots++) {
            Check.cordOf(x, "1".repeat(knots));
            Check.same("P15 rows of " + knots, x.cord(knots, 6), powers[knots]);
        }
        Check.cordOf(x, "1".repeat(40));
        Check.same("P15 rows of 40", x.cord(9, 6), 1000000);
        for (int at = 0; at < 40; at += 39) {
            x.retie(9, at, 2);
            Check.same("P15 many rows of a part", x.cord(9, 6), 0);
            x.retie(9, at, 1);
        }
        x.setLetter(10, 1);
        Check.same("P15 11^5", x.cord(5, 6), 161051);
        Check.same("P15 11^6", x.cord(6, 6), 1000000);
        KnotLetters y = Check.letters(1, 1, 1, 1, 1, 1, 1, 1, 1, 1);
        Check.cordOf(y, "1111511");
        Check.cordOf(y, "11115111");
        Check.cordOf(y, "11111111111115211111111");
        Check.cordOf(y, "1111111111111511111111");
        Check.cordOf(y, "25111111111111");
        Check.same("P15 just a million", y.cord(0, 6), 1000000);
        Check.same("P15 more than a million", y.cord(1, 6), 1000000);
        Check.same("P15 many and none", y.cord(2, 6), 0);
        Check.same("P15 many and many", y.cord(3, 6), 1000000);
        Check.same("P15 none and many", y.cord(4, 6), 0);
    }

    private static void knot() {
        KnotLetters x = Check.letters(123, 4);
        Check.tied(x, "a b");
        int[] due = {1, 2, 3, 5, 4};
        for (int i = 0; i < 5; i++) {
            Check.same("P16 place " + i, x.knot(0, i), due[i]);
        }
        int[] wrong = {-1, 5, 39, 40, Integer.MIN_VALUE, Integer.MAX_VALUE};
        for (int index : wrong) {
            Check.throwsIndex(x, "P16 place " + index, () -> x.knot(0, index));
        }
        int[] cords = {-1, 1, 9, 10, Integer.MIN_VALUE, Integer.MAX_VALUE};
        for (int cord : cords) {
            Check.throwsIndex(x, "P16 cord " + cord, () -> x.knot(cord, 0));
        }
    }

    private static void retie() {
        KnotLetters x = Check.letters(123, 4);
        x.setKnotter(2, 0);
        Check.tied(x, "a b");
        long letters = x.letter(0, 2) + 10 * x.letter(1, 2);
        Check.same("P17 before", x.retie(0, 0, 4), 1);
        Check.same("P17 again", x.retie(0, 0, 2), 4);
        Check.same("P17 same", x.retie(0, 0, 2), 2);
        Check.same("P17 slipped one", x.retie(0, 1, 1), 3);
        Check.same("P17 last", x.retie(0, 4, 3), 1);
        Check.sameText("P17 knots", Check.knots(x, 0), "21353");
        Check.same("P17 slips stay", x.cord(0, 2), 2);
        Check.same("P17 counts stay", x.count(2), 4);
        Check.same("P17 counts stay", x.letter(0, 2) + 10 * x.letter(1, 2), letters);
        Check.throwsState(x, "P17 gap", () -> x.retie(0, 3, 1));
        int[] kinds = {-1, 0, 5, Integer.MIN_VALUE, Integer.MAX_VALUE};
        for (int kind : kinds) {
            Check.throwsArgument(x, "P17 kind " + kind, () -> x.retie(0, 0, kind));
            Check.throwsArgument(x, "P17 kind ahead of gap " + kind, () -> x.retie(0, 3, kind));
            Check.throwsIndex(x, "P17 place ahead of kind " + kind, () -> x.retie(0, 5, kind));
            Check.throwsIndex(x, "P17 cord ahead of kind " + kind, () -> x.retie(1, 0, kind));
        }
        Check.throwsIndex(x, "P17 place", () -> x.retie(0, -1, 1));
        Check.throwsIndex(x, "P17 cord", () -> x.retie(-1, 0, 1));
    }

    private static void distance() {
        KnotLetters x = Check.letters(1, 2);
        x.setCosts(5, 2);
        int none = Check.cordOf(x, "");
        int gap = Check.cordOf(x, "5");
        int one = Check.cordOf(x, "1");
        int mixed = Check.cordOf(x, "12513");
        int other = Check.cordOf(x, "2351335");
        Check.same("P18 same", x.distance(mixed, mixed), 0);
        Check.same("P18 empty", x.distance(none, none), 0);
        Check.same("P18 ghosts", x.distance(none, mixed), 17);
        Check.same("P18 missed", x.distance(mixed, none), 29);
        Check.same("P18 a gap is taken for nothing", x.distance(gap, one), 11);
        Check.same("P18 nothing is taken for a gap", x.distance(one, gap), 14);
        Check.same("P18 gap missed", x.distance(gap, none), 9);
        Check.same("P18 gap as ghost", x.distance(none, gap), 9);
        Check.same("P18 mixed", x.distance(mixed, other), 3 + 3 + 2 + 9);
        Check.same("P18 mixed", x.distance(other, mixed), 3 + 3 + 5 + 9);
        x.setFeel(1, 2, 0);
        Check.same("P18 costs nothing", x.distance(mixed, other), 3 + 2 + 9);
        int long1 = Check.cordOf(x, "1".repeat(40));
        int long4 = Check.cordOf(x, "4".repeat(40));
        x.setFeel(1, 4, 9);
        x.setCosts(9, 9);
        Check.same("P18 forty", x.distance(long1, long4), 360);
        int gaps = Check.cordOf(x, "5".repeat(40));
        Check.same("P18 forty gaps", x.distance(gaps, long4), 720);
        Check.throwsIndex(x, "P18 a", () -> x.distance(-1, 0));
        Check.throwsIndex(x, "P18 b", () -> x.distance(0, -1));
        Check.throwsIndex(x, "P18 a", () -> x.distance(8, 0));
        Check.throwsIndex(x, "P18 b", () -> x.distance(0, 8));
        Check.throwsIndex(x, "P18 both", () -> x.distance(Integer.MAX_VALUE, Integer.MIN_VALUE));
    }

    private static void nearest() {
        KnotLetters x = new KnotLetters();
        Check.throwsIndex(x, "P19 none", () -> x.nearest(0));
        Check.cordOf(x, "1111");
        Check.same("P19 one", x.nearest(0), -1);
        Check.cordOf(x, "22");
        Check.same("P19 two", x.nearest(0), 1);
        Check.same("P19 two", x.nearest(1), 0);
        Check.cordOf(x, "1112");
        Check.same("P19 least", x.nearest(0), 2);
        Check.cordOf(x, "1113");
        Check.same("P19 smallest of several", x.nearest(0), 2);
        Check.cordOf(x, "1111");
        Check.same("P19 distance 0", x.nearest(0), 4);
        Check.same("P19 distance 0", x.nearest(4), 0);
        KnotLetters y = new KnotLetters();
        Check.cordOf(y, "11");
        Check.cordOf(y, "1111");
        Check.cordOf(y, "3");
        y.setCosts(9, 1);
        Check.same("P19 from it to the others", y.nearest(0), 1);
        y.setCosts(1, 9);
        Check.same("P19 from it to the others", y.nearest(0), 2);
        Check.throwsIndex(y, "P19 cord", () -> y.nearest(3));
        Check.throwsIndex(y, "P19 cord", () -> y.nearest(-1));
        Check.throwsIndex(y, "P19 cord", () -> y.nearest(10));
    }

    private static void read() {
        KnotLetters x = Check.letters(12, 3, 4);
        Check.tied(x, "abc cba ");
        Check.tied(x, "b");
        Check.tied(x, "");
        Check.same("P20 bytes", x.read(0), 8);
        Check.sameText("P20 paper", Check.paper(x), "abc cba ");
        Check.throwsIndex(x, "P20 cord", () -> x.read(3));
        Check.throwsIndex(x, "P20 cord", () -> x.read(-1));
        Check.throwsIndex(x, "P20 cord", () -> x.read(10));
        x.setLetter(1, 0);
        x.setLetter(2, 3);
        Check.sameText("P20 paper stays", Check.paper(x), "abc cba ");
        Check.same("P20 in the place of what was there", x.read(1), 1);
        Check.sameText("P20 read with the letters of now", Check.paper(x), "c");
        Check.same("P20 empty", x.read(2), 0);
        Check.sameText("P20 empty", Check.paper(x), "");
        KnotLetters last = Check.letters(0, 0, 0, 0, 0, 0, 0, 0, 0, 0, 0, 2);
        Check.tied(last, "l l");
        Check.sameText("P20 last letter", Check.read(last, 0), "l l");
    }

    private static void byteAt() {
        KnotLetters x = Check.letters(12, 3);
        Check.throwsIndex(x, "P21 no paper", () -> x.byteAt(0));
        Check.tied(x, "a b");
        Check.tied(x, "b");
        Check.throwsIndex(x, "P21 not read", () -> x.byteAt(0));
        x.read(0);
        Check.same("P21 a", x.byteAt(0), 97);
        Check.same("P21 blank", x.byteAt(1), 32);
        Check.same("P21 b", x.byteAt(2), 98);
        int[] wrong = {-1, 3, 39, 40, Integer.MIN_VALUE, Integer.MAX_VALUE};
        for (int index : wrong) {
            Check.throwsIndex(x, "P21 place " + index, () -> x.byteAt(index));
        }
        x.read(1);
        Check.throwsIndex(x, "P21 shorter", () -> x.byteAt(1));
    }

    private static void count() {
        KnotLetters x = Check.letters(1, 0, 12, 333);
        x.setKnotter(3, 4);
        Check.tied(x, "a c dd");
        Check.tied(x, "a");
        Check.tape(x, "abc");
        x.read(0);
        int[] due = {3, 2, 10, 3, 2, 3, x.cord(0, 5) + 2};
        for (int what = 0; what < 7; what++) {
            Check.same("P22 what " + what, x.count(what), due[what]);
        }
        x.setLetter(3, 0);
        Check.same("P22 letters with knots", x.count(0), 2);
        Check.throwsIndex(x, "P22 what", () -> x.count(-1));
        Check.throwsIndex(x, "P22 what", () -> x.count(7));
        Check.throwsIndex(x, "P22 what", () -> x.count(Integer.MIN_VALUE));
    }

    private static long appended(long d, long... numbers) {
        long sum = d;
        for (long x : numbers) {
            sum = sum * 31 + x;
        }
        return sum;
    }

    private static void digest() {
        long d = appended(571, 0, 0, 0, 0, 0, 0, 0);
        Check.same("P24 new", new KnotLetters().digest(), appended(d, new long[36]));
        KnotLetters x = Check.letters(12, 3);
        Check.tied(x, "a b");
        Check.tied(x, "");
        x.retie(0, 0, 4);
        x.read(0);
        Check.tape(x, "zz");
        d = appended(571, 2, 2, 3, 0, 0, 2, 3);
        d = appended(d, 12, 2, 1, 3, 1, 1);
        d = appended(d, new long[30]);
        d = appended(d, 4, 1, 0, 0, 3, 2, 0, 4, 2, 5, 3);
        d = appended(d, 0, 0, 0, 0, 0, 0, 1);
        d = appended(d, 97, 32, 98);
        Check.same("P24 of all", x.digest(), d);
        Check.same("P24 changes nothing", x.digest(), d);
    }
}
