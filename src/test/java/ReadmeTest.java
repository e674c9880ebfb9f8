/** The calls that README.md shows answer what it says there. */
public final class ReadmeTest {
    public static void main(String[] args) {
        KnotLetters x = new KnotLetters();
        Check.same("setLetter(0, 1)", x.setLetter(0, 1), 0);
        Check.same("setLetter(1, 21)", x.setLetter(1, 21), 0);
        Check.same("feed", x.feed(0x61622061, 0, 0, 0, 0), 20);
        Check.same("trim(4)", x.trim(4), 4);
        int cord = x.tie();
        Check.same("tie()", cord, 0);
        Check.sameText("the knots of the cord", Check.knots(x, cord), "12151");
        Check.same("retie", x.retie(cord, 1, 3), 2);
        Check.sameText("the knots behind retie", Check.knots(x, cord), "13151");
        Check.same("read", x.read(cord), 4);
        Check.sameText("the paper", Check.paper(x), "ab a");
        Check.same("cord(0, 4)", x.cord(cord, 4), 3);
        Check.end("ReadmeTest");
    }
}
