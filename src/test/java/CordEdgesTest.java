import java.math.BigInteger;

/** Promises 15 to 22 and 24: a test for each sentence that names a boundary. */
public final class CordEdgesTest {
    public static void main(String[] args) {
        Check.sentence("P15: 0 its knots and gaps, 1 its gaps", CordEdgesTest::knotsAndGaps);
        Check.sentence("P15: 2 knots that slipped on it, 3 knots that were left out", CordEdgesTest::errors);
        Check.sentence("P15: 4 the cost of its best reading", CordEdgesTest::costOfReading);
        Check.sentence("P15: 5 the letters of this", CordEdgesTest::lettersOfReading);
        Check.sentence("P15: 6 how many rows of letters have just its knots (kinds that are equal, whatever costs"
                + " tell)", CordEdgesTest::justItsKnots);
        Check.sentence("P15: just its knots, of a cord of forty", CordEdgesTest::fullOfKnots);
        Check.sentence("P15: for each word how many there are, all multiplied", CordEdgesTest::multiplied);
        Check.sentence("P15: (of an empty word one: the empty row)", CordEdgesTest::emptyWord);
        Check.sentence("P15: 1000000 if it is more than that", CordEdgesTest::moreThanAMillion);
        Check.sentence("P15: Throws IndexOutOfBoundsException if there is no such cord, or what is not 0 to 6",
                CordEdgesTest::noCordOrWhat);
        Check.sentence("P16: index: a place on it, from 0", CordEdgesTest::placesFromZero);
        Check.sentence("P16: Throws IndexOutOfBoundsException if there is no such cord or place",
                CordEdgesTest::noKnot);
        retying();
        comparing();
        onPaper();
        Check.end("CordEdgesTest");
    }

    private static void retying() {
        Check.sentence("P17: the knot there becomes one of this kind", CordEdgesTest::becomesOne);
        Check.sentence("P17: (gaps stay; slips and all counts stay)", CordEdgesTest::countsStay);
        Check.sentence("P17: Returns the kind before.", CordEdgesTest::kindBefore);
        Check.sentence("P17: Throws IndexOutOfBoundsException if there is no such cord or place",
                CordEdgesTest::retieNoPlace);
        Check.sentence("P17: Throws IllegalArgumentException if kind is not 1 to 4", CordEdgesTest::retieNoKind);
        Check.sentence("P17: Throws IllegalStateException if a gap is there", CordEdgesTest::retieGap);
    }

    private static void comparing() {
        Check.sentence("P18: Returns the distance from the one to the other one", CordEdgesTest::fromOneToOther);
        Check.sentence("P18: a gap that is missed or a ghost costs 9", CordEdgesTest::gapsMissed);
        Check.sentence("P18: is taken for nothing else", CordEdgesTest::takenForNothing);
        Check.sentence("P18: and costs nothing for a gap", CordEdgesTest::gapForGap);
        Check.sentence("P18: Throws IndexOutOfBoundsException if there is no such cord", CordEdgesTest::noDistance);
        Check.sentence("P19: Returns the other cord with the least distance from it", CordEdgesTest::otherCord);
        Check.sentence("P19: of several the one with the smallest number", CordEdgesTest::smallestNumber);
        Check.sentence("P19: -1 if there is no other one", CordEdgesTest::noOther);
        Check.sentence("P19: Throws IndexOutOfBoundsException if there is no such cord", CordEdgesTest::noNearest);
    }

    private static void onPaper() {
        Check.sentence("P20: on the paper, in the place of what was there", CordEdgesTest::inItsPlace);
        Check.sentence("P20: Returns how many bytes.", CordEdgesTest::howManyBytes);
        Check.sentence("P20: Throws IndexOutOfBoundsException if there is no such cord", CordEdgesTest::noReading);
        Check.sentence("P21: Throws IndexOutOfBoundsException if there is no such place", CordEdgesTest::noByte);
        Check.sentence("P22: Returns how many there are.", CordEdgesTest::counts);
        Check.sentence("P22: Throws IndexOutOfBoundsException if what is not 0 to 6", CordEdgesTest::noCount);
        Check.sentence("P24: A number d starts with 571", CordEdgesTest::digestOfNew);
        Check.sentence("P24: d becomes d * 31 + x, which wraps around as a 64-bit integer",
                CordEdgesTest::digestWraps);
        Check.sentence("P24: what count() tells; for each letter what letter() tells; for each cord what cord() tells,"
                + " and its knots and gaps (all in their order); the bytes of the paper", CordEdgesTest::digestOfAll);
    }

    /** Three cords: "1213 1" with a gap, one without knots, and one of two gaps. */
    private static KnotLetters threeCords() {
        KnotLetters x = Check.letters(12, 13, 1);
        Check.tied(x, "ab c");
        Check.tied(x, "");
        Check.tied(x, "  ");
        Check.tape(x, "abc");
        x.read(0);
        return x;
    }

    private static int[] noCords(int cords) {
        return new int[] {-1, cords, cords + 1, 10, Integer.MIN_VALUE, Integer.MAX_VALUE};
    }

    private static void knotsAndGaps() {
        KnotLetters x = Check.letters(1111, 1);
        String[] texts = {"", " ", "b", "aaaaaaaaaa", " ".repeat(40), "b ".repeat(20), " aa "};
        int[] places = {0, 1, 1, 40, 40, 40, 10};
        int[] gaps = {0, 1, 0, 0, 40, 20, 2};
        for (int i = 0; i < texts.length; i++) {
            int cord = Check.tied(x, texts[i]);
            Check.same("places of " + texts[i], x.cord(cord, 0), places[i]);
            Check.same("gaps of " + texts[i], x.cord(cord, 1), gaps[i]);
        }
        x.setKnotter(0, 1);
        Check.tied(x, "aa  b");
        Check.same("none that is left out", x.cord(7, 0), 2);
        Check.same("its gaps", x.cord(7, 1), 2);
    }

    private static void errors() {
        KnotLetters x = Check.letters(1);
        String forty = "a".repeat(40);
        Check.tied(x, forty);
        x.setKnotter(1, 0);
        Check.tied(x, forty);
        x.setKnotter(0, 1);
        Check.tied(x, forty);
        x.setKnotter(3, 7);
        Check.tied(x, forty);
        x.setKnotter(0, 0);
        Check.tied(x, "a a");
        int[] slipped = {0, 40, 0, 11, 0};
        int[] leftOut = {0, 0, 40, 5, 0};
        for (int cord = 0; cord < 5; cord++) {
            Check.same("slips of cord " + cord, x.cord(cord, 2), slipped[cord]);
            Check.same("left out of cord " + cord, x.cord(cord, 3), leftOut[cord]);
            Check.same("on cord " + cord, x.cord(cord, 0), cord == 4 ? 3 : 40 - leftOut[cord]);
        }
    }

    private static void costOfReading() {
        KnotLetters x = Check.letters(1);
        int empty = Check.cordOf(x, "");
        int gaps = Check.cordOf(x, "5".repeat(40));
        int fours = Check.cordOf(x, "4".repeat(40));
        int mixed = Check.cordOf(x, "4544");
        Check.same("no knots", x.cord(empty, 4), 0);
        Check.same("gaps cost nothing", x.cord(gaps, 4), 0);
        Check.same("forty are taken", x.cord(fours, 4), 120);
        Check.same("three are taken", x.cord(mixed, 4), 9);
        x.setFeel(1, 4, 9);
        Check.same("forty ghosts", x.cord(fours, 4), 160);
        x.setCosts(9, 9);
        Check.same("the greatest cost", x.cord(fours, 4), 360);
        x.setLetter(0, 0);
        Check.same("without letters", x.cord(fours, 4), 360);
        x.setLetter(0, 4444);
        Check.same("with the letters of now", x.cord(fours, 4), 0);
        Check.same("4 4 4 is missed once", x.cord(mixed, 4), 27);
    }

    private static void lettersOfReading() {
        KnotLetters x = Check.letters(1, 22);
        Check.cordOf(x, "");
        Check.cordOf(x, "5".repeat(40));
        Check.cordOf(x, "1".repeat(40));
        Check.cordOf(x, "1522515");
        Check.cordOf(x, "2".repeat(40));
        int[] due = {0, 0, 40, 3, 20};
        for (int cord = 0; cord < due.length; cord++) {
            Check.same("letters of cord " + cord, x.cord(cord, 5), due[cord]);
        }
        x.setLetter(0, 0);
        Check.same("of ones read as b", x.cord(2, 5), 20);
        x.setLetter(1, 0);
        Check.same("without letters", x.cord(2, 5), 0);
    }

    private static void justItsKnots() {
        KnotLetters x = Check.letters(1, 12, 2, 12, 0, 1212);
        String[] knots = {"1", "12", "1212", "3", "13", "121"};
        int[] due = {1, 3, 10, 0, 0, 3};
        for (int i = 0; i < knots.length; i++) {
            int cord = Check.cordOf(x, knots[i]);
            Check.same("rows of " + knots[i], x.cord(cord, 6), due[i]);
        }
        x.setFeel(1, 3, 0);
        x.setFeel(2, 3, 0);
        Check.same("3 costs nothing, and is another kind", x.cord(4, 6), 0);
        x.setCosts(1, 1);
        Check.same("nothing is missed", x.cord(5, 6), 3);
        x.retie(4, 1, 2);
        Check.same("the knots of now", x.cord(4, 6), 3);
        x.setLetter(3, 0);
        Check.same("the letters of now", x.cord(4, 6), 2);
    }

    private static void fullOfKnots() {
        int[] rows = {1, 11, 111, 1111, 1112};
        int[] due = {1, 1, 0, 1, 0};
        KnotLetters x = fullCord();
        for (int i = 0; i < rows.length; i++) {
            x.setLetter(0, rows[i]);
            Check.same("rows of forty knots by " + rows[i], x.cord(0, 6), due[i]);
        }
        x.setLetter(0, 111);
        x.setLetter(11, 1111);
        Check.same("ten, eleven, twelve or thirteen letters", x.cord(0, 6), 1 + 330 + 495 + 13);
    }

    private static void multiplied() {
        KnotLetters x = Check.letters(1, 11);
        String[] knots = {"1151", "11511", "1115115111", "511", "11355", "1152"};
        int[] due = {2, 4, 3 * 2 * 3, 2, 0, 0};
        for (int i = 0; i < knots.length; i++) {
            int cord = Check.cordOf(x, knots[i]);
            Check.same("rows of " + knots[i], x.cord(cord, 6), due[i]);
        }
    }

    private static void emptyWord() {
        KnotLetters none = new KnotLetters();
        KnotLetters some = Check.letters(1, 1);
        String[] knots = {"", "5", "55", "5".repeat(40)};
        for (int cord = 0; cord < knots.length; cord++) {
            Check.cordOf(none, knots[cord]);
            Check.cordOf(some, knots[cord]);
            Check.same("no letters, " + knots[cord], none.cord(cord, 6), 1);
            Check.same("letters, " + knots[cord], some.cord(cord, 6), 1);
        }
        Check.cordOf(some, "5155");
        Check.same("one word of three is not empty", some.cord(4, 6), 2);
        Check.cordOf(none, "515");
        Check.same("no letters for one word", none.cord(4, 6), 0);
    }

    private static void moreThanAMillion() {
        KnotLetters ten = Check.letters(1, 1, 1, 1, 1, 1, 1, 1, 1, 1);
        String[] knots = {"11111", "111111", "1111111", "1151111", "11515151511", "1515151515151", "11111511",
            "15".repeat(20), "1".repeat(40), "1".repeat(38) + "52"};
        int[] due = {100000, 1000000, 1000000, 1000000, 1000000, 1000000, 1000000, 1000000, 1000000, 0};
        for (int i = 0; i < knots.length; i++) {
            int cord = Check.cordOf(ten, knots[i]);
            Check.same("rows of " + knots[i], ten.cord(cord, 6), due[i]);
        }
        KnotLetters two = Check.letters(1, 11);
        Check.cordOf(two, "1".repeat(29));
        Check.cordOf(two, "1".repeat(30));
        Check.cordOf(two, "1".repeat(28) + "51");
        Check.cordOf(two, "1".repeat(28) + "511");
        Check.same("832040", two.cord(0, 6), 832040);
        Check.same("1346269", two.cord(1, 6), 1000000);
        Check.same("514229 and 1", two.cord(2, 6), 514229);
        Check.same("514229 and 2", two.cord(3, 6), 1000000);
        KnotLetters twelve = Check.letters(1, 1, 1, 1, 1, 1, 1, 1, 1, 1, 1, 1);
        Check.cordOf(twelve, "11111");
        Check.cordOf(twelve, "1".repeat(40));
        Check.cordOf(twelve, "1".repeat(19) + "5" + "1".repeat(20));
        Check.cordOf(twelve, "11111111511111111");
        Check.same("twelve letters for five knots", twelve.cord(0, 6), 248832);
        for (int cord = 1; cord < 4; cord++) {
            Check.same("no number wraps around, cord " + cord, twelve.cord(cord, 6), 1000000);
        }
        twelve.retie(2, 39, 2);
        Check.same("many, and none", twelve.cord(2, 6), 0);
        twelve.retie(1, 0, 2);
        Check.same("none ahead of many", twelve.cord(1, 6), 0);
    }

    private static void noCordOrWhat() {
        for (int cord : noCords(3)) {
            Check.refusedIndex("cord " + cord, CordEdgesTest::threeCords, x -> x.cord(cord, 0));
            Check.refusedIndex("cord " + cord + " and what", CordEdgesTest::threeCords, x -> x.cord(cord, 7));
        }
        int[] whats = {-1, 7, 8, Integer.MIN_VALUE, Integer.MAX_VALUE};
        for (int what : whats) {
            Check.refusedIndex("what " + what, CordEdgesTest::threeCords, x -> x.cord(0, what));
        }
        Check.refusedIndex("a cord that was not tied", () -> notTied("ab cz"), x -> x.cord(0, 0));
    }

    private static KnotLetters notTied(String text) {
        KnotLetters x = Check.letters(12, 13, 1);
        Check.tied(x, text);
        return x;
    }

    private static void placesFromZero() {
        KnotLetters x = Check.letters(1234);
        Check.tied(x, " a ");
        Check.tied(x, "aaaaaaaaaa");
        int[] due = {5, 1, 2, 3, 4, 5};
        for (int place = 0; place < 6; place++) {
            Check.same("place " + place, x.knot(0, place), due[place]);
        }
        for (int place = 0; place < 40; place++) {
            Check.same("place " + place + " of forty", x.knot(1, place), place % 4 + 1);
        }
    }

    private static void noKnot() {
        for (int cord : noCords(3)) {
            Check.refusedIndex("cord " + cord, CordEdgesTest::threeCords, x -> x.knot(cord, 0));
        }
        int[] places = {-1, 6, 39, 40, Integer.MIN_VALUE, Integer.MAX_VALUE};
        for (int place : places) {
            Check.refusedIndex("place " + place, CordEdgesTest::threeCords, x -> x.knot(0, place));
        }
        Check.refusedIndex("a cord without knots", CordEdgesTest::threeCords, x -> x.knot(1, 0));
        Check.refusedIndex("a cord of two gaps", CordEdgesTest::threeCords, x -> x.knot(2, 2));
        Check.refusedIndex("a full cord", CordEdgesTest::fullCord, x -> x.knot(0, 40));
        Check.refusedIndex("one that was left out has no place", CordEdgesTest::leftOut, x -> x.knot(0, 2));
    }

    private static KnotLetters fullCord() {
        KnotLetters x = Check.letters(1);
        Check.tied(x, "a".repeat(40));
        return x;
    }

    private static KnotLetters leftOut() {
        KnotLetters x = Check.letters(123);
        x.setKnotter(0, 3);
        Check.tied(x, "a");
        return x;
    }

    private static void becomesOne() {
        KnotLetters x = fullCord();
        Check.same("the first", x.retie(0, 0, 4), 1);
        Check.same("the last", x.retie(0, 39, 2), 1);
        Check.sameText("knots", Check.knots(x, 0), "4" + "1".repeat(38) + "2");
        Check.same("exact rows of now", x.cord(0, 6), 0);
        Check.same("cost of now", x.cord(0, 4), 6);
        Check.same("back", x.retie(0, 0, 1), 4);
        Check.same("back", x.retie(0, 39, 1), 2);
        Check.same("exact rows of now", x.cord(0, 6), 1);
    }

    private static void countsStay() {
        KnotLetters x = Check.letters(1, 0, 4);
        x.setKnotter(2, 3);
        Check.tied(x, "aaa ac");
        Check.sameText("tied", Check.knots(x, 0), "12524");
        int[] cord = new int[4];
        int[] count = new int[5];
        for (int what = 0; what < 4; what++) {
            cord[what] = x.cord(0, what);
        }
        for (int what = 0; what < 5; what++) {
            count[what] = x.count(what);
        }
        for (int place = 0; place < 5; place++) {
            if (place != 2) {
                x.retie(0, place, 3);
            }
        }
        Check.sameText("retied, the gap stays", Check.knots(x, 0), "33533");
        for (int what = 0; what < 4; what++) {
            Check.same("cord, what " + what, x.cord(0, what), cord[what]);
        }
        for (int what = 0; what < 5; what++) {
            Check.same("count, what " + what, x.count(what), count[what]);
        }
        Check.same("tied", x.letter(0, 2), 4);
        Check.tied(x, "a");
        Check.same("the sixth knot is left out", x.cord(1, 3), 1);
    }

    private static void kindBefore() {
        KnotLetters x = fullCord();
        int before = 1;
        for (int i = 1; i <= 20; i++) {
            int kind = 1 + i * 3 % 4;
            Check.same("kind before", x.retie(0, 39, kind), before);
            before = kind;
        }
        Check.same("the same kind", x.retie(0, 39, before), before);
    }

    private static void retieNoPlace() {
        for (int cord : noCords(3)) {
            Check.refusedIndex("cord " + cord, CordEdgesTest::threeCords, x -> x.retie(cord, 0, 1));
            Check.refusedIndex("cord " + cord + " and kind", CordEdgesTest::threeCords, x -> x.retie(cord, 0, 0));
        }
        int[] places = {-1, 6, 40, Integer.MIN_VALUE, Integer.MAX_VALUE};
        for (int place : places) {
            Check.refusedIndex("place " + place, CordEdgesTest::threeCords, x -> x.retie(0, place, 1));
            Check.refusedIndex("place " + place + " and kind", CordEdgesTest::threeCords, x -> x.retie(0, place, 5));
        }
        Check.refusedIndex("a cord without knots", CordEdgesTest::threeCords, x -> x.retie(1, 0, 1));
        Check.refusedIndex("a full cord", CordEdgesTest::fullCord, x -> x.retie(0, 40, 1));
    }

    private static void retieNoKind() {
        int[] kinds = {-1, 0, 5, 6, Integer.MIN_VALUE, Integer.MAX_VALUE};
        for (int kind : kinds) {
            Check.refusedArgument("kind " + kind, CordEdgesTest::threeCords, x -> x.retie(0, 0, kind));
            Check.refusedArgument("kind " + kind + " for a gap", CordEdgesTest::threeCords,
                    x -> x.retie(0, 4, kind));
        }
    }

    private static void retieGap() {
        for (int kind = 1; kind <= 4; kind++) {
            int asked = kind;
            Check.refusedState("kind " + kind, CordEdgesTest::threeCords, x -> x.retie(0, 4, asked));
            Check.refusedState("the first gap, kind " + kind, CordEdgesTest::threeCords, x -> x.retie(2, 0, asked));
            Check.refusedState("the last gap, kind " + kind, CordEdgesTest::threeCords, x -> x.retie(2, 1, asked));
        }
    }

    private static void fromOneToOther() {
        KnotLetters x = new KnotLetters();
        int none = Check.cordOf(x, "");
        int one = Check.cordOf(x, "1");
        int ones = Check.cordOf(x, "1".repeat(40));
        int fours = Check.cordOf(x, "4".repeat(40));
        x.setCosts(1, 9);
        Check.same("to itself", x.distance(ones, ones), 0);
        Check.same("none to itself", x.distance(none, none), 0);
        Check.same("39 are missed", x.distance(ones, one), 39);
        Check.same("39 ghosts", x.distance(one, ones), 351);
        Check.same("all are missed", x.distance(ones, none), 40);
        Check.same("forty ghosts", x.distance(none, ones), 360);
        Check.same("forty are taken", x.distance(ones, fours), 120);
        x.setFeel(1, 4, 9);
        x.setCosts(9, 9);
        Check.same("the greatest distance of knots", x.distance(ones, fours), 360);
        x.setCosts(4, 4);
        Check.same("missed and ghosts", x.distance(ones, fours), 320);
    }

    private static void gapsMissed() {
        KnotLetters x = new KnotLetters();
        int none = Check.cordOf(x, "");
        int gap = Check.cordOf(x, "5");
        int gaps = Check.cordOf(x, "5".repeat(40));
        x.setCosts(1, 2);
        Check.same("a gap is missed", x.distance(gap, none), 9);
        Check.same("a gap is a ghost", x.distance(none, gap), 9);
        Check.same("39 are missed", x.distance(gaps, gap), 351);
        Check.same("39 ghosts", x.distance(gap, gaps), 351);
        Check.same("forty are missed", x.distance(gaps, none), 360);
    }

    private static void takenForNothing() {
        KnotLetters x = new KnotLetters();
        int gap = Check.cordOf(x, "5");
        int gaps = Check.cordOf(x, "5".repeat(40));
        x.setCosts(1, 2);
        for (int kind = 1; kind <= 4; kind++) {
            int knot = Check.cordOf(x, String.valueOf(kind));
            Check.same("a gap is missed, a knot is a ghost", x.distance(gap, knot), 11);
            Check.same("a knot is missed, a gap is a ghost", x.distance(knot, gap), 10);
        }
        int fours = Check.cordOf(x, "4".repeat(40));
        x.setCosts(9, 9);
        Check.same("the greatest distance", x.distance(gaps, fours), 720);
        Check.same("the greatest distance", x.distance(fours, gaps), 720);
    }

    private static void gapForGap() {
        KnotLetters x = new KnotLetters();
        int gap = Check.cordOf(x, "5");
        int gaps = Check.cordOf(x, "5".repeat(40));
        int mixed = Check.cordOf(x, "15254");
        int other = Check.cordOf(x, "25153");
        Check.same("one gap", x.distance(gap, gap), 0);
        Check.same("forty gaps", x.distance(gaps, gaps), 0);
        Check.same("three are taken, two gaps stand", x.distance(mixed, other), 9);
        int shifted = Check.cordOf(x, "51");
        int back = Check.cordOf(x, "15");
        Check.same("a knot is missed and a ghost, a gap stands", x.distance(shifted, back), 8);
        x.setCosts(9, 9);
        Check.same("a knot stands, or a gap", x.distance(shifted, back), 18);
    }

    private static void noDistance() {
        for (int cord : noCords(3)) {
            Check.refusedIndex("a " + cord, CordEdgesTest::threeCords, x -> x.distance(cord, 0));
            Check.refusedIndex("b " + cord, CordEdgesTest::threeCords, x -> x.distance(0, cord));
            Check.refusedIndex("both " + cord, CordEdgesTest::threeCords, x -> x.distance(cord, cord));
        }
    }

    private static void otherCord() {
        KnotLetters x = new KnotLetters();
        Check.cordOf(x, "11");
        Check.cordOf(x, "1111");
        Check.cordOf(x, "4");
        x.setCosts(1, 9);
        Check.same("never itself, from it to c", x.nearest(0), 2);
        Check.same("from b to a", x.nearest(1), 0);
        x.setCosts(9, 1);
        Check.same("from it to b", x.nearest(0), 1);
        for (int cord = 3; cord < 9; cord++) {
            Check.cordOf(x, "5".repeat(cord));
        }
        Check.cordOf(x, "11");
        Check.same("the last cord", x.nearest(0), 9);
        Check.same("the first cord", x.nearest(9), 0);
    }

    private static void smallestNumber() {
        KnotLetters x = new KnotLetters();
        for (int cord = 0; cord < 10; cord++) {
            Check.cordOf(x, "12");
        }
        for (int cord = 0; cord < 10; cord++) {
            Check.same("all are the same, from " + cord, x.nearest(cord), cord == 0 ? 1 : 0);
        }
        x.retie(0, 0, 3);
        Check.same("all but the first", x.nearest(5), 1);
        Check.same("from the first", x.nearest(0), 1);
        x.retie(1, 0, 3);
        Check.same("the other one with a 3", x.nearest(1), 0);
        Check.same("all but the first two", x.nearest(2), 3);
    }

    private static void noOther() {
        String[] knots = {"", "1", "5"};
        for (String one : knots) {
            KnotLetters x = new KnotLetters();
            Check.cordOf(x, one);
            Check.same("one cord alone", x.nearest(0), -1);
            Check.cordOf(x, "4444");
            Check.same("two", x.nearest(0), 1);
            Check.same("two", x.nearest(1), 0);
        }
    }

    private static void noNearest() {
        Check.refusedIndex("no cords", KnotLetters::new, x -> x.nearest(0));
        for (int cord : noCords(3)) {
            Check.refusedIndex("cord " + cord, CordEdgesTest::threeCords, x -> x.nearest(cord));
        }
    }

    private static void inItsPlace() {
        KnotLetters x = Check.letters(12, 3);
        Check.tied(x, "ab ba");
        Check.tied(x, "b");
        Check.tied(x, "");
        Check.sameText("first", Check.read(x, 0), "ab ba");
        Check.sameText("a shorter one", Check.read(x, 1), "b");
        Check.refusedIndex("nothing is left", CordEdgesTest::shorterPaper, y -> y.byteAt(1));
        Check.sameText("none", Check.read(x, 2), "");
        Check.sameText("a longer one", Check.read(x, 0), "ab ba");
        x.setLetter(1, 0);
        x.retie(0, 0, 4);
        Check.sameText("the paper stays", Check.paper(x), "ab ba");
    }

    private static KnotLetters shorterPaper() {
        KnotLetters x = Check.letters(12, 3);
        Check.tied(x, "ab ba");
        Check.tied(x, "b");
        x.read(0);
        x.read(1);
        return x;
    }

    private static void howManyBytes() {
        KnotLetters x = Check.letters(1, 22);
        String[] knots = {"", "5", "1", "22", "5".repeat(40), "1".repeat(40), "15".repeat(20), "22".repeat(20)};
        int[] due = {0, 1, 1, 1, 40, 40, 40, 20};
        for (int i = 0; i < knots.length; i++) {
            int cord = Check.cordOf(x, knots[i]);
            Check.same("bytes of " + knots[i], x.read(cord), due[i]);
            Check.same("count of " + knots[i], x.count(6), due[i]);
        }
    }

    private static void noReading() {
        Check.refusedIndex("no cords", KnotLetters::new, x -> x.read(0));
        for (int cord : noCords(3)) {
            Check.refusedIndex("cord " + cord, CordEdgesTest::threeCords, x -> x.read(cord));
        }
    }

    private static void noByte() {
        Check.refusedIndex("no paper", KnotLetters::new, x -> x.byteAt(0));
        Check.refusedIndex("an empty paper", CordEdgesTest::emptyPaper, x -> x.byteAt(0));
        int[] places = {-1, 4, 5, 39, 40, Integer.MIN_VALUE, Integer.MAX_VALUE};
        for (int place : places) {
            Check.refusedIndex("place " + place, CordEdgesTest::threeCords, x -> x.byteAt(place));
        }
        KnotLetters x = threeCords();
        Check.same("the first", x.byteAt(0), 'a');
        Check.same("the last", x.byteAt(3), 'c');
        Check.refusedIndex("a full paper", CordEdgesTest::fullPaper, y -> y.byteAt(40));
        Check.same("the last of a full paper", fullPaper().byteAt(39), 'a');
    }

    private static KnotLetters emptyPaper() {
        KnotLetters x = threeCords();
        x.read(1);
        return x;
    }

    private static KnotLetters fullPaper() {
        KnotLetters x = fullCord();
        x.read(0);
        return x;
    }

    private static void counts() {
        KnotLetters x = Check.letters(1, 1, 1, 1, 1, 1, 1, 1, 1, 1, 1, 1);
        x.setKnotter(3, 2);
        for (int cord = 0; cord < 10; cord++) {
            Check.tied(x, "l".repeat(40));
        }
        x.setKnotter(0, 0);
        Check.tape(x, "z".repeat(80));
        x.read(9);
        int[] greatest = {12, 10, 400, 67, 200, 80, 20};
        for (int what = 0; what < 7; what++) {
            Check.same("the greatest, what " + what, x.count(what), greatest[what]);
        }
        x.setLetter(0, 0);
        x.setLetter(11, 0);
        x.trim(0);
        Check.same("letters", x.count(0), 10);
        Check.same("bytes", x.count(5), 0);
        Check.same("slips stay", x.count(3), 67);
    }

    private static void noCount() {
        int[] whats = {-1, 7, 8, Integer.MIN_VALUE, Integer.MAX_VALUE};
        for (int what : whats) {
            Check.refusedIndex("what " + what, Check::busy, x -> x.count(what));
            Check.refusedIndex("what " + what + " of a new one", KnotLetters::new, x -> x.count(what));
        }
    }

    private static BigInteger appended(BigInteger d, long... numbers) {
        BigInteger sum = d;
        for (long x : numbers) {
            sum = sum.multiply(BigInteger.valueOf(31)).add(BigInteger.valueOf(x));
        }
        return sum;
    }

    private static void digestOfNew() {
        BigInteger d = appended(BigInteger.valueOf(571), new long[43]);
        Check.same("571 * 31^43", new KnotLetters().digest(), d.longValue());
        Check.same("571 * 31^43", 571 * BigInteger.valueOf(31).pow(43).longValue(), d.longValue());
    }

    /** The numbers of digest, as the other calls tell them, without any wrap-around. */
    private static BigInteger numbers(KnotLetters x) {
        BigInteger d = BigInteger.valueOf(571);
        for (int what = 0; what < 7; what++) {
            d = appended(d, x.count(what));
        }
        for (int letter = 0; letter < 12; letter++) {
            d = appended(d, x.letter(letter, 0), x.letter(letter, 1), x.letter(letter, 2));
        }
        for (int cord = 0; cord < x.count(1); cord++) {
            for (int what = 0; what < 7; what++) {
                d = appended(d, x.cord(cord, what));
            }
            for (int place = 0; place < x.cord(cord, 0); place++) {
                d = appended(d, x.knot(cord, place));
            }
        }
        for (int place = 0; place < x.count(6); place++) {
            d = appended(d, x.byteAt(place));
        }
        return d;
    }

    private static void digestWraps() {
        boolean isNegative = false;
        boolean isPositive = false;
        for (int rows = 1; rows <= 4; rows++) {
            for (int letter = 0; letter < 12; letter++) {
                KnotLetters x = new KnotLetters();
                x.setLetter(letter, rows * 1111);
                long digest = x.digest();
                BigInteger d = numbers(x);
                Check.holds("it is beyond 64 bits", d.bitLength() > 64);
                Check.same("its lowest 64 bits", digest, d.longValue());
                isNegative |= digest < 0;
                isPositive |= digest > 0;
            }
        }
        Check.holds("some are below 0", isNegative);
        Check.holds("some are above 0", isPositive);
    }

    private static void digestOfAll() {
        KnotLetters x = Check.letters(12, 3);
        x.setKnotter(2, 3);
        Check.tied(x, "a b");
        Check.tied(x, "");
        x.read(0);
        Check.tape(x, "zz");
        BigInteger d = appended(BigInteger.valueOf(571), 2, 2, 3, 1, 1, 2, 2);
        d = appended(d, 12, 2, 1, 3, 1, 1);
        d = appended(d, new long[30]);
        d = appended(d, 3, 1, 1, 1, 3, 1, 0, 1, 3, 5);
        d = appended(d, 0, 0, 0, 0, 0, 0, 1);
        d = appended(d, 97, 32);
        Check.same("two cords", x.digest(), d.longValue());
        Check.same("it changes nothing", x.digest(), d.longValue());
        KnotLetters busy = Check.busy();
        Check.same("a busy one", busy.digest(), numbers(busy).longValue());
        KnotLetters three = threeCords();
        Check.same("three cords", three.digest(), numbers(three).longValue());
    }
}
