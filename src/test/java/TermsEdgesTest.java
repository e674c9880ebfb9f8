/** What stands ahead of the promises: a test for each sentence of it that names a boundary. */
public final class TermsEdgesTest {
    private static final int CALLS = 512;

    public static void main(String[] args) {
        Check.sentence("An object is used for at most 512 calls after it has been made", TermsEdgesTest::lastCall);
        Check.sentence("Knots are of the kinds 1 to 4; a gap on a cord is told as 5.", TermsEdgesTest::kinds);
        Check.sentence("There are 12, a to l, told as 0 to 11", TermsEdgesTest::twelveLetters);
        Check.sentence("each has a row of 1 to 4 knots, or none (at first)", TermsEdgesTest::rowSizes);
        Check.sentence("A row is told as a decimal number, the first knot highest, 0 for none.",
                TermsEdgesTest::firstKnotHighest);
        Check.sentence("There are at most 10, numbered from 0 in the order of their tying", TermsEdgesTest::tenCords);
        Check.sentence("each is a row of at most 40 knots and gaps", TermsEdgesTest::fortyPlaces);
        Check.sentence("Words of a cord are its parts without gaps, between gaps, ahead of the first one and behind"
                + " the last one (also empty ones).", TermsEdgesTest::words);
        Check.sentence("The tape is a row of at most 80 bytes, at first empty", TermsEdgesTest::tape);
        Check.sentence("the paper is a row of bytes, at first empty", TermsEdgesTest::paper);
        Check.sentence("The knotter has a slip and a skip, 0 to 99 (0, at first: never)", TermsEdgesTest::never);
        Check.sentence("counts all knots that are to be tied, on all cords, from 1 on (gaps do not count)",
                TermsEdgesTest::countedFromOne);
        Check.sentence("a knot whose number can be divided by skip (if this is not 0) is left out; otherwise one"
                + " whose number can be divided by slip (if this is not 0)", TermsEdgesTest::skipAheadOfSlip);
        Check.sentence("is tied as the next kind, 4 as 1", TermsEdgesTest::fourAsOne);
        Check.sentence("a cost for each two different kinds, 0 to 9 (3, at first, alike in both directions)",
                TermsEdgesTest::takingCosts);
        Check.sentence("a cost of a knot that is missed, and of a ghost, 1 to 9 each (4, at first)",
                TermsEdgesTest::missedAndGhost);
        distanceAndReading();
        Check.sentence("A method that throws an exception changes nothing.", TermsEdgesTest::changesNothing);
        Check.sentence("If several exceptions apply, the one that is named first is thrown.",
                TermsEdgesTest::firstNamed);
        Check.end("TermsEdgesTest");
    }

    private static void distanceAndReading() {
        Check.sentence("each knot that is meant is either missed (it is not there), or it is one of those that are"
                + " there", TermsEdgesTest::missedOrThere);
        Check.sentence("one of the same kind, which costs nothing", TermsEdgesTest::sameKind);
        Check.sentence("the cost of these both kinds, whatever goes by a third one", TermsEdgesTest::noThirdKind);
        Check.sentence("those that are there and are none of them are ghosts", TermsEdgesTest::ghosts);
        Check.sentence("Which are which keeps the order of both rows.", TermsEdgesTest::keepsOrder);
        Check.sentence("The distance is the least sum of all these costs.", TermsEdgesTest::leastSum);
        Check.sentence("A word is read as a row of letters (that have knots)", TermsEdgesTest::lettersWithKnots);
        Check.sentence("the distance from all their knots, one letter behind the other, to those of the word",
                TermsEdgesTest::oneBehindTheOther);
        Check.sentence("The best reading is that with the least cost", TermsEdgesTest::leastCost);
        Check.sentence("of several that with the fewest letters", TermsEdgesTest::fewestLetters);
        Check.sentence("of these the first one as in a dictionary", TermsEdgesTest::dictionary);
        Check.sentence("of these the first one as in a dictionary, of letters that take more or fewer knots",
                TermsEdgesTest::laterLetters);
        Check.sentence("(The empty row of letters is a reading, too.)", TermsEdgesTest::emptyReading);
        Check.sentence("A cord is read word by word; its cost is the sum of all", TermsEdgesTest::sumOfWords);
        Check.sentence("its text all their letters, with a blank (32) for each gap", TermsEdgesTest::blanks);
    }

    private static void lastCall() {
        KnotLetters rows = new KnotLetters();
        for (int call = 1; call <= CALLS; call++) {
            Check.same("setLetter, call " + call, rows.setLetter(11, call % 2 == 0 ? 0 : 4444),
                    call % 2 == 0 ? 4444 : 0);
        }
        KnotLetters full = Check.letters(1, 12, 122, 1222, 2, 22, 222, 2222, 3, 33, 333, 4);
        int calls = 12;
        for (int cord = 0; cord < 10; cord++) {
            full.feed(0x61626364, 0x20206667, 0x68696a6b, 0x6c6c6c20, 0);
            full.trim(15);
            Check.same("tie, cord " + cord, full.tie(), cord);
            calls += 3;
        }
        Check.same("read", full.read(9), full.count(6));
        calls += 2;
        long digest = full.digest();
        for (calls++; calls < CALLS; calls++) {
            Check.same("digest, call " + (calls + 1), full.digest(), digest);
        }
    }

    private static void kinds() {
        KnotLetters x = Check.letters(1, 2, 3, 4);
        Check.tied(x, "abcd ");
        for (int place = 0; place < 5; place++) {
            Check.same("knot", x.knot(0, place), place + 1);
        }
        for (int kind = 1; kind <= 4; kind++) {
            Check.same("the least and the greatest row of kind " + kind, x.setLetter(11, kind * 1111), kind - 1);
            Check.same("one knot", x.setLetter(11, kind), kind * 1111);
        }
        Check.refusedArgument("kind 0", Check::busy, y -> y.setFeel(0, 1, 1));
        Check.refusedArgument("kind 5", Check::busy, y -> y.setFeel(1, 5, 1));
        Check.refusedArgument("a gap is no kind", Check::busy, y -> y.retie(0, 0, 5));
    }

    private static void twelveLetters() {
        KnotLetters x = Check.letters(1, 2, 3, 4, 11, 22, 33, 44, 12, 23, 34, 41);
        Check.tied(x, "abcdefghijkl");
        Check.sameText("each its own row", Check.knots(x, 0), "1234" + "11223344" + "12233441");
        for (int letter = 0; letter < 12; letter++) {
            Check.same("letter " + letter, x.letter(letter, 2), 1);
        }
        Check.same("all have knots", x.count(0), 12);
        Check.same("the sign ahead of a", Check.tied(x, "`"), -1);
        x.trim(0);
        Check.same("the sign behind l", Check.tied(x, "m"), -1);
        Check.refusedIndex("letter 12", Check::busy, y -> y.setLetter(12, 1));
        Check.refusedIndex("letter -1", Check::busy, y -> y.setLetter(-1, 1));
    }

    private static void rowSizes() {
        KnotLetters x = new KnotLetters();
        int[] rows = {0, 1, 14, 414, 1414, 0};
        for (int i = 1; i < rows.length; i++) {
            Check.same("the row ahead of " + rows[i], x.setLetter(0, rows[i]), rows[i - 1]);
            Check.same("knots of " + rows[i], x.letter(0, 1), i % 5);
        }
        Check.refusedArgument("five knots", Check::busy, y -> y.setLetter(0, 11111));
    }

    private static void firstKnotHighest() {
        KnotLetters x = Check.letters(1234, 4321, 4);
        Check.tied(x, "abc");
        Check.sameText("knots", Check.knots(x, 0), "123443214");
        Check.same("told", x.letter(0, 0), 1234);
        Check.same("told", x.letter(1, 0), 4321);
        Check.same("none", x.letter(3, 0), 0);
    }

    private static void tenCords() {
        KnotLetters x = Check.letters(1, 2, 3, 4);
        for (int cord = 0; cord < 10; cord++) {
            Check.same("cords", x.count(1), cord);
            Check.same("number", Check.tied(x, String.valueOf((char) ('a' + cord % 4))), cord);
        }
        for (int cord = 0; cord < 10; cord++) {
            Check.sameText("cord " + cord, Check.knots(x, cord), String.valueOf(1 + cord % 4));
        }
        Check.refusedState("the eleventh cord", () -> tenCordsTied("a"), KnotLetters::tie);
        Check.refusedIndex("its number", () -> tenCordsTied("a"), y -> y.cord(10, 0));
    }

    private static KnotLetters tenCordsTied(String tape) {
        KnotLetters x = Check.letters(1);
        for (int cord = 0; cord < 10; cord++) {
            Check.tied(x, "a");
        }
        Check.tape(x, tape);
        return x;
    }

    private static void fortyPlaces() {
        KnotLetters x = Check.letters(1, 22, 333, 4444);
        Check.same("forty knots of ten letters", Check.tied(x, "dddddddddd"), 0);
        Check.same("forty knots of forty letters", Check.tied(x, "a".repeat(40)), 1);
        Check.same("forty gaps", Check.tied(x, " ".repeat(40)), 2);
        Check.same("both", Check.tied(x, "cbd ".repeat(4)), 3);
        for (int cord = 0; cord < 4; cord++) {
            Check.same("places of cord " + cord, x.cord(cord, 0), 40);
            Check.same("the last place", x.knot(cord, 39), cord == 0 ? 4 : cord == 1 ? 1 : 5);
        }
        String[] long41 = {"dddddddddda", "a".repeat(41), " ".repeat(41), "cbd ".repeat(4) + "a"};
        for (String text : long41) {
            Check.refusedState("41 places of " + text, () -> fed(text, 1, 22, 333, 4444), KnotLetters::tie);
        }
    }

    private static KnotLetters fed(String tape, int... rows) {
        KnotLetters x = Check.letters(rows);
        Check.tape(x, tape);
        return x;
    }

    private static void words() {
        String[] knots = {"", "5", "55", "1", "15", "51", "515", "151", "1551", "51515"};
        String[] texts = {"", " ", "  ", "a", "a ", " a", " a ", "a a", "a  a", " a a "};
        KnotLetters x = Check.letters(1, 11);
        for (int i = 0; i < knots.length; i++) {
            int cord = Check.cordOf(x, knots[i]);
            Check.sameText("words of " + knots[i], Check.read(x, cord), texts[i]);
            Check.same("rows of " + knots[i], x.cord(cord, 6), 1);
        }
        KnotLetters across = Check.letters(0, 11, 1);
        Check.cordOf(across, "151");
        Check.sameText("no letter goes across a gap", Check.read(across, 0), "c c");
        Check.same("no letter goes across a gap", across.cord(0, 6), 1);
    }

    private static void tape() {
        KnotLetters x = Check.letters(1);
        Check.same("at first", x.count(5), 0);
        Check.same("at first", x.tie(), 0);
        Check.same("of an empty tape", x.cord(0, 0), 0);
        for (int bytes = 20; bytes <= 80; bytes += 20) {
            Check.same("feed", x.feed(0, 0, 0, 0, 0), bytes);
            Check.same("count", x.count(5), bytes);
        }
        Check.refusedState("more than eighty", TermsEdgesTest::fullTape, y -> y.feed(0, 0, 0, 0, 0));
    }

    private static KnotLetters fullTape() {
        return fed("a".repeat(40) + "z".repeat(40), 1);
    }

    private static void paper() {
        KnotLetters x = Check.letters(1);
        Check.same("at first", x.count(6), 0);
        Check.refusedIndex("at first", KnotLetters::new, y -> y.byteAt(0));
        Check.tied(x, "aaa");
        Check.same("not by tie", x.count(6), 0);
    }

    private static void never() {
        KnotLetters x = Check.letters(1234, 2);
        KnotLetters seldom = Check.letters(1234, 2);
        Check.same("at first", seldom.setKnotter(99, 0), 0);
        for (int cord = 0; cord < 10; cord++) {
            Check.tied(x, "aaaaaaaaaa");
            Check.sameText("never", Check.knots(x, cord), "1234".repeat(10));
            Check.tied(seldom, "aaaaaaaaaa");
        }
        Check.same("to be tied", x.count(2), 400);
        Check.same("never a slip", x.count(3), 0);
        Check.same("never left out", x.count(4), 0);
        Check.same("slips of 99, 198, 297 and 396", seldom.count(3), 4);
        int[] places = {98, 197, 296, 395};
        for (int place : places) {
            int due = "2341".charAt(place % 4) - '0';
            Check.same("slip at " + place, seldom.knot(place / 40, place % 40), due);
        }
        KnotLetters skipping = Check.letters(1);
        skipping.setKnotter(0, 99);
        for (int cord = 0; cord < 10; cord++) {
            Check.tied(skipping, "a".repeat(40));
            Check.same("left out of cord " + cord, skipping.cord(cord, 3), "0010100101".charAt(cord) - '0');
        }
        Check.same("never a slip", skipping.count(3), 0);
    }

    private static void countedFromOne() {
        KnotLetters x = Check.letters(1, 0, 11);
        x.setKnotter(1, 0);
        Check.tied(x, "a");
        Check.sameText("the first one is 1", Check.knots(x, 0), "2");
        x.setKnotter(3, 0);
        Check.tied(x, "  a  ");
        Check.sameText("the second one, gaps do not count", Check.knots(x, 1), "55155");
        Check.same("a byte that is not tied", Check.tied(x, "aab"), -1);
        x.trim(0);
        Check.tape(x, "c".repeat(21));
        Check.throwsState(x, "too long", x::tie);
        x.trim(0);
        Check.tied(x, "ca");
        Check.sameText("the third one, on another cord", Check.knots(x, 2), "211");
        Check.same("counted", x.count(2), 5);
        Check.cordOf(x, "1");
        x.setKnotter(0, 7);
        Check.tied(x, "cc");
        Check.sameText("the seventh one, also with errors set anew", Check.knots(x, 4), "111");
    }

    private static void skipAheadOfSlip() {
        KnotLetters x = Check.letters(1);
        x.setKnotter(2, 4);
        Check.tied(x, "a".repeat(9));
        Check.sameText("4 and 8 are left out, 2 and 6 slip", Check.knots(x, 0), "1211211");
        Check.same("left out", x.cord(0, 3), 2);
        Check.same("slips, none of those that are left out", x.cord(0, 2), 2);
        KnotLetters both = Check.letters(1, 2, 3, 4);
        both.setKnotter(1, 1);
        Check.tied(both, "abcd");
        Check.same("all are left out", both.cord(0, 0), 0);
        Check.same("none slips", both.count(3), 0);
        KnotLetters slips = Check.letters(1);
        slips.setKnotter(4, 2);
        Check.tied(slips, "a".repeat(8));
        Check.sameText("each that slips would be left out", Check.knots(slips, 0), "1111");
        Check.same("none slips", slips.cord(0, 2), 0);
    }

    private static void fourAsOne() {
        KnotLetters x = Check.letters(1, 2, 3, 4);
        x.setKnotter(1, 0);
        Check.tied(x, "abcd d");
        Check.sameText("next kinds", Check.knots(x, 0), "234151");
    }

    private static void takingCosts() {
        for (int a = 1; a <= 4; a++) {
            for (int b = 1; b <= 4; b++) {
                if (a != b) {
                    KnotLetters x = new KnotLetters();
                    Check.same("at first", x.setFeel(a, b, 0), 3);
                    Check.same("alike", x.setFeel(b, a, 9), 0);
                    Check.same("alike", x.setFeel(a, b, 9), 9);
                }
            }
        }
        Check.refusedArgument("10", Check::busy, y -> y.setFeel(1, 2, 10));
        Check.refusedArgument("-1", Check::busy, y -> y.setFeel(1, 2, -1));
        Check.refusedArgument("one kind", Check::busy, y -> y.setFeel(2, 2, 3));
    }

    private static void missedAndGhost() {
        KnotLetters x = Check.letters(1, 12);
        Check.same("a ghost at first", x.alike(0, 1), 4);
        Check.same("missed at first", x.alike(1, 0), 4);
        Check.same("at first", x.setCosts(1, 9), 44);
        Check.same("a ghost, 9", x.alike(0, 1), 9);
        Check.same("missed, 1", x.alike(1, 0), 1);
        Check.same("before", x.setCosts(9, 1), 19);
        Check.same("a ghost, 1", x.alike(0, 1), 1);
        Check.same("missed, 9", x.alike(1, 0), 9);
        Check.refusedArgument("missed 0", Check::busy, y -> y.setCosts(0, 1));
        Check.refusedArgument("ghost 0", Check::busy, y -> y.setCosts(1, 0));
        Check.refusedArgument("missed 10", Check::busy, y -> y.setCosts(10, 9));
        Check.refusedArgument("ghost 10", Check::busy, y -> y.setCosts(9, 10));
    }

    private static void missedOrThere() {
        KnotLetters x = Check.letters(1234, 4444, 4, 34, 234, 123, 14);
        x.setCosts(2, 1);
        Check.same("none is missed", x.alike(0, 0), 0);
        Check.same("the first three are missed", x.alike(0, 2), 6);
        Check.same("the first two are missed", x.alike(0, 3), 4);
        Check.same("the first is missed", x.alike(0, 4), 2);
        Check.same("the last is missed", x.alike(0, 5), 2);
        Check.same("the two between are missed", x.alike(0, 6), 4);
        Check.same("one is there, and three ghosts", x.alike(2, 1), 3);
        Check.same("the first is there, the other one is taken, and a ghost", x.alike(6, 5), 4);
        KnotLetters y = Check.letters(1234);
        y.setCosts(1, 9);
        String[] parts = {"1", "2", "3", "4", "12", "13", "14", "23", "24", "34"};
        for (String knots : parts) {
            reading(y, knots, "a", 4 - knots.length());
        }
        KnotLetters z = Check.letters(1234);
        z.setCosts(1, 1);
        reading(z, "234", "a", 1);
        reading(z, "134", "a", 1);
        reading(z, "124", "a", 1);
        reading(z, "123", "a", 1);
        reading(z, "41234", "a", 1);
        reading(z, "14234", "a", 1);
        reading(z, "12434", "a", 1);
        reading(z, "12344", "a", 1);
        reading(z, "142434", "a", 2);
        reading(z, "4", "", 1);
    }

    private static void sameKind() {
        KnotLetters x = Check.letters(1, 22, 333, 4444, 1234, 1234);
        x.setCosts(1, 1);
        for (int letter = 0; letter < 5; letter++) {
            Check.same("letter " + letter + " to itself", x.alike(letter, letter), 0);
        }
        Check.same("the same row", x.alike(4, 5), 0);
    }

    private static void noThirdKind() {
        KnotLetters x = Check.letters(1, 4);
        x.setCosts(9, 9);
        x.setFeel(1, 4, 9);
        for (int third = 2; third <= 3; third++) {
            x.setFeel(1, third, 0);
            x.setFeel(third, 4, 0);
        }
        x.setFeel(2, 3, 0);
        Check.same("1 for 4", x.alike(0, 1), 9);
        Check.same("4 for 1", x.alike(1, 0), 9);
    }

    private static void ghosts() {
        KnotLetters x = Check.letters(3, 1232);
        x.setCosts(9, 2);
        Check.same("three ghosts, ahead and behind", x.alike(0, 1), 6);
        Check.cordOf(x, "");
        Check.cordOf(x, "1".repeat(40));
        Check.same("forty ghosts", x.distance(0, 1), 80);
        Check.same("none", x.distance(0, 0), 0);
    }

    private static void keepsOrder() {
        KnotLetters x = Check.letters(12, 21, 1234, 4321);
        Check.same("both are taken", x.alike(0, 1), 6);
        x.setFeel(1, 2, 9);
        Check.same("one is missed, and a ghost", x.alike(0, 1), 8);
        for (int a = 1; a <= 4; a++) {
            for (int b = a + 1; b <= 4; b++) {
                x.setFeel(a, b, 9);
            }
        }
        Check.same("three are missed, and three ghosts", x.alike(2, 3), 24);
    }

    private static void leastSum() {
        KnotLetters x = Check.letters(1, 2);
        x.setCosts(2, 3);
        int[] costs = {0, 4, 5, 6, 9};
        int[] due = {0, 4, 5, 5, 5};
        for (int i = 0; i < costs.length; i++) {
            x.setFeel(1, 2, costs[i]);
            Check.same("taken for " + costs[i] + ", or missed and a ghost for 5", x.alike(0, 1), due[i]);
        }
        KnotLetters y = Check.letters(1123, 1231);
        y.setCosts(1, 1);
        Check.same("missed and a ghost cost less than all taken", y.alike(0, 1), 2);
    }

    private static void lettersWithKnots() {
        KnotLetters x = Check.letters(0, 1, 0);
        Check.cordOf(x, "1");
        Check.sameText("a letter without knots is none", Check.read(x, 0), "b");
        Check.same("one row of letters", x.cord(0, 6), 1);
        x.setLetter(1, 0);
        Check.sameText("no letters are left", Check.read(x, 0), "");
        Check.same("no row of letters", x.cord(0, 6), 0);
        Check.same("cost", x.cord(0, 4), 4);
        KnotLetters last = new KnotLetters();
        last.setLetter(11, 1234);
        reading(last, "1234", "l", 0);
        reading(last, "12341234", "ll", 0);
        reading(last, "1234512344", "l l", 4);
    }

    private static void oneBehindTheOther() {
        KnotLetters x = Check.letters(12, 34);
        Check.cordOf(x, "1234");
        Check.cordOf(x, "3412");
        Check.cordOf(x, "1324");
        Check.sameText("in this order", Check.read(x, 0), "ab");
        Check.sameText("in the other one", Check.read(x, 1), "ba");
        Check.same("no letter goes into another one", x.cord(2, 4), 6);
    }

    private static void reading(KnotLetters x, String knots, String text, int cost) {
        int cord = Check.cordOf(x, knots);
        Check.sameText("reading of " + knots, Check.read(x, cord), text);
        Check.same("cost of " + knots, x.cord(cord, 4), cost);
    }

    private static void leastCost() {
        KnotLetters x = Check.letters(1112, 1);
        reading(x, "111", "bbb", 0);
        reading(x, "1112", "a", 0);
        reading(x, "1113", "a", 3);
        x.setFeel(2, 3, 5);
        reading(x, "1113", "bbbb", 3);
    }

    private static void fewestLetters() {
        KnotLetters x = Check.letters(1, 11, 0, 1111);
        reading(x, "1", "a", 0);
        reading(x, "11", "b", 0);
        reading(x, "111", "ab", 0);
        reading(x, "1111", "d", 0);
        reading(x, "1111111", "abd", 0);
        reading(x, "11511", "b b", 0);
    }

    private static void dictionary() {
        KnotLetters x = Check.letters(1, 1, 11, 0, 0, 0, 0, 0, 0, 0, 0, 11);
        reading(x, "1", "a", 0);
        reading(x, "11", "c", 0);
        reading(x, "111", "ac", 0);
        KnotLetters later = Check.letters(12, 121, 2, 21);
        reading(later, "1212", "aa", 0);
        reading(later, "12121", "ab", 0);
        KnotLetters last = Check.letters(122, 22, 1, 2);
        reading(last, "1222", "ad", 0);
        last.setLetter(0, 0);
        last.setLetter(4, 12);
        reading(last, "1222", "eb", 0);
    }

    private static void laterLetters() {
        KnotLetters ghost = Check.letters(12, 3, 24);
        ghost.setFeel(3, 4, 4);
        ghost.setFeel(2, 3, 9);
        reading(ghost, "1223", "ab", 4);
        ghost.setLetter(1, 24);
        ghost.setLetter(2, 3);
        reading(ghost, "1223", "ab", 4);
        reading(ghost, "12512235", "a ab ", 4);
        KnotLetters missed = Check.letters(12, 3, 23);
        missed.setCosts(4, 5);
        missed.setFeel(1, 2, 4);
        missed.setFeel(2, 3, 9);
        reading(missed, "223", "ab", 4);
        missed.setLetter(1, 23);
        missed.setLetter(2, 3);
        reading(missed, "223", "ab", 4);
        decidedLate();
        KnotLetters ahead = Check.letters(12, 34);
        ahead.setCosts(9, 1);
        String[] knots = {"3", "412", "134", "4412", "41234", "12234", "34312", "22"};
        String[] texts = {"", "a", "b", "a", "ab", "ab", "ba", ""};
        int[] costs = {1, 1, 1, 2, 1, 1, 1, 2};
        for (int i = 0; i < knots.length; i++) {
            reading(ahead, knots[i], texts[i], costs[i]);
        }
    }

    /** Readings that cost as much as others with the same first letters. */
    private static void decidedLate() {
        KnotLetters fourth = Check.letters(12, 22, 12);
        fourth.setCosts(2, 4);
        fourth.setFeel(1, 2, 2);
        reading(fourth, "1111122", "aaaa", 6);
        KnotLetters third = Check.letters(11, 21);
        third.setCosts(2, 3);
        reading(third, "1112112", "aaab", 5);
        KnotLetters last = Check.letters(2, 11);
        last.setCosts(2, 2);
        last.setFeel(1, 2, 1);
        reading(last, "121112", "bba", 2);
        KnotLetters second = Check.letters(14, 4);
        second.setCosts(3, 4);
        reading(second, "112", "aa", 6);
        KnotLetters only = Check.letters(21, 1);
        only.setCosts(1, 2);
        reading(only, "22", "aa", 2);
    }

    private static void emptyReading() {
        KnotLetters x = Check.letters(1);
        reading(x, "", "", 0);
        reading(x, "2", "a", 3);
        x.setFeel(1, 2, 4);
        reading(x, "2", "", 4);
        x.setFeel(1, 2, 5);
        reading(x, "2", "", 4);
        reading(new KnotLetters(), "4321", "", 16);
    }

    private static void sumOfWords() {
        KnotLetters x = Check.letters(1, 22);
        reading(x, "35335", "a b ", 9);
        reading(x, "2515225", "a a b ", 3);
        reading(x, "35353535353535353535", "a a a a a a a a a a ", 30);
    }

    private static void blanks() {
        KnotLetters x = Check.letters(1, 2);
        Check.cordOf(x, "5152");
        Check.same("bytes", x.read(0), 4);
        Check.same("blank", x.byteAt(0), 32);
        Check.same("a", x.byteAt(1), 97);
        Check.same("blank", x.byteAt(2), 32);
        Check.same("b", x.byteAt(3), 98);
        Check.cordOf(x, "5".repeat(40));
        Check.same("bytes", x.read(1), 40);
        Check.sameText("forty blanks", Check.paper(x), " ".repeat(40));
    }

    private static void changesNothing() {
        Check.refusedIndex("setLetter", Check::busy, x -> x.setLetter(12, 1));
        Check.refusedArgument("setLetter", Check::busy, x -> x.setLetter(0, 105));
        Check.refusedIndex("letter", Check::busy, x -> x.letter(0, 3));
        Check.refusedIndex("alike", Check::busy, x -> x.alike(0, 12));
        Check.refusedArgument("setKnotter", Check::busy, x -> x.setKnotter(1, 100));
        Check.refusedArgument("setKnotter", Check::busy, x -> x.setKnotter(100, 1));
        Check.refusedArgument("setFeel", Check::busy, x -> x.setFeel(1, 2, 10));
        Check.refusedArgument("setCosts", Check::busy, x -> x.setCosts(1, 10));
        Check.refusedArgument("setCosts", Check::busy, x -> x.setCosts(10, 1));
        Check.refusedState("feed", () -> fed("ab a ".repeat(13), 1, 2), x -> x.feed(1, 2, 3, 4, 5));
        Check.refusedArgument("trim", Check::busy, x -> x.trim(7));
        Check.refusedState("tie", () -> fed("ab".repeat(20) + "a", 1, 2), KnotLetters::tie);
        Check.refusedState("tie, ten cords", () -> tenCordsTied("aa"), KnotLetters::tie);
        Check.refusedIndex("cord", Check::busy, x -> x.cord(0, 7));
        Check.refusedIndex("knot", Check::busy, x -> x.knot(1, 0));
        Check.refusedIndex("retie", Check::busy, x -> x.retie(1, 0, 1));
        Check.refusedArgument("retie", Check::busy, x -> x.retie(0, 0, 5));
        Check.refusedState("retie", Check::busy, x -> x.retie(2, 0, 1));
        Check.refusedIndex("distance", Check::busy, x -> x.distance(0, 3));
        Check.refusedIndex("nearest", Check::busy, x -> x.nearest(3));
        Check.refusedIndex("read", Check::busy, x -> x.read(3));
        Check.refusedIndex("byteAt", Check::busy, x -> x.byteAt(x.count(6)));
        Check.refusedIndex("count", Check::busy, x -> x.count(7));
    }

    private static void firstNamed() {
        Check.refusedIndex("setLetter, letter and row", Check::busy, x -> x.setLetter(12, 5));
        Check.refusedIndex("retie, cord and kind", Check::busy, x -> x.retie(3, 0, 0));
        Check.refusedIndex("retie, place and kind", Check::busy, x -> x.retie(2, 5, 5));
        Check.refusedArgument("retie, kind and gap", Check::busy, x -> x.retie(2, 0, 5));
    }
}
