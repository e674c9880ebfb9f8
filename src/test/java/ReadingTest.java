import java.util.Random;

/** Readings, clearness and advice of many small alphabets, against all that there are, looked at one by one. */
public final class ReadingTest {
    public static void main(String[] args) {
        Random random = new Random(1);
        for (int i = 0; i < 1500; i++) {
            smallWord(random);
        }
        for (int i = 0; i < 4000; i++) {
            alphabet(random);
        }
        Check.end("ReadingTest");
    }

    private static int row(Random random, int most, int kinds) {
        int row = 0;
        for (int knots = 1 + random.nextInt(most); knots > 0; knots--) {
            row = row * 10 + 1 + random.nextInt(kinds);
        }
        return row;
    }

    private static void smallWord(Random random) {
        KnotLetters x = new KnotLetters();
        Model model = new Model();
        int kinds = 1 + random.nextInt(4);
        StringBuilder all = new StringBuilder();
        for (int i = 0; i < 4; i++) {
            int letter = random.nextInt(12);
            int row = row(random, 4, kinds);
            x.setLetter(letter, row);
            model.setLetter(letter, row);
            all.append(' ').append((char) ('a' + letter)).append(row);
        }
        costs(random, x, model);
        StringBuilder word = new StringBuilder();
        for (int knots = random.nextInt(6); knots > 0; knots--) {
            word.append(1 + random.nextInt(kinds));
        }
        Check.cordOf(x, word.toString());
        // One letter more than knots, to see that no such reading is the best.
        String due = model.bestOfAll(word.toString(), word.length() + 1);
        String call = "letters" + all + ", reading of " + word;
        Check.sameText(call, Check.read(x, 0), due);
        Check.same(call + ", cost", x.cord(0, 4), model.apart(model.meantBy(due), word.toString()));
        Check.same(call + ", letters", x.cord(0, 5), due.length());
    }

    static void costs(Random random, KnotLetters x, Model model) {
        int most = 1 + random.nextInt(9);
        int missed = 1 + random.nextInt(most);
        int ghost = 1 + random.nextInt(most);
        Check.same("setCosts", x.setCosts(missed, ghost), model.setCosts(missed, ghost));
        for (int a = 1; a <= 4; a++) {
            for (int b = a + 1; b <= 4; b++) {
                int cost = random.nextInt(most + 1);
                Check.same("setFeel", x.setFeel(a, b, cost), model.setFeel(b, a, cost));
            }
        }
    }

    private static void alphabet(Random random) {
        KnotLetters x = new KnotLetters();
        Model model = new Model();
        int kinds = 1 + random.nextInt(4);
        int most = 1 + random.nextInt(4);
        StringBuilder all = new StringBuilder("letters");
        for (int letters = random.nextInt(12); letters >= 0; letters--) {
            int letter = random.nextInt(12);
            int row = random.nextInt(8) == 0 ? x.advise() : row(random, most, kinds);
            x.setLetter(letter, row);
            model.setLetter(letter, row);
            all.append(' ').append((char) ('a' + letter)).append(row);
            Check.same(all + ", isFree", x.isFree() ? 1 : 0, model.isFree() ? 1 : 0);
            Check.same(all + ", isClear", x.isClear() ? 1 : 0, model.isClear() ? 1 : 0);
            Check.same(all + ", advise", x.advise(), model.advise());
            Check.sameDouble(all + ", mean", x.mean(), model.mean());
            Check.same(all + ", closest", x.closest(), model.closest());
        }
        oneWayOnly(all.toString(), x, model, kinds);
    }

    /** A clear alphabet reads no row of up to 8 knots in two ways; one that is not has such a row, if a short one. */
    private static void oneWayOnly(String letters, KnotLetters x, Model model, int kinds) {
        if (!x.isClear()) {
            return;
        }
        int rows = 1;
        for (int knots = 0; knots <= (kinds <= 2 ? 8 : 4); knots++) {
            for (int rank = 0; rank < rows; rank++) {
                StringBuilder word = new StringBuilder();
                int left = rank;
                for (int i = 0; i < knots; i++) {
                    word.append(1 + left % kinds);
                    left /= kinds;
                }
                int ways = model.exactRows(word.toString()).intValue();
                Check.holds(letters + " is clear, " + word, ways <= 1);
            }
            rows *= kinds;
        }
    }
}
