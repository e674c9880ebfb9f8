import java.util.Random;

/** Readings, clearness and advice of many small alphabets, against all that there are, looked at one by one. */
public final class ReadingTest {
    public static void main(String[] args) {
        Random random = new Random(1);
        for (int i = 0; i < 1500; i++) {
            smallWord(random);
        }
        for (int i = 0; i < 4000; i++) {
            longerWord(random);
        }
        for (int i = 0; i < 4000; i++) {
            alphabet(random);
        }
        Check.end("ReadingTest");
    }

    private static int row(Random random, int most, int kinds) {
        int row = 0;
        for (int knots = 1 + random.nextInt(most); knots > 0; knots--) {
            row = row * 10 + 1 + random.nextInt(kinds);
        }
        return row;
    }

    /** A word of at most 5 knots, against all rows of letters, also such with one letter more than knots. */
    private static void smallWord(Random random) {
        KnotLetters x = new KnotLetters();
        Model model = new Model();
        int kinds = 1 + random.nextInt(4);
        String letters = letters(random, x, model, 4, kinds);
        costs(random, x, model, 1 + random.nextInt(9));
        String word = word(random, random.nextInt(6), kinds);
        Check.cordOf(x, word);
        compare(letters + ", reading of " + word, x, 0, model, model.bestOfAll(word, word.length() + 1), word);
    }

    /** Words of up to 12 knots, with small costs, so that many readings cost the same. */
    private static void longerWord(Random random) {
        KnotLetters x = new KnotLetters();
        Model model = new Model();
        int kinds = 2 + random.nextInt(3);
        String letters = letters(random, x, model, 2 + random.nextInt(6), kinds);
        costs(random, x, model, 1 + random.nextInt(3));
        for (int i = 0; i < 3; i++) {
            String word = word(random, 3 + random.nextInt(10), kinds);
            Check.cordOf(x, word);
            compare(letters + ", reading of " + word, x, i, model, model.best(word), word);
        }
    }

    private static String letters(Random random, KnotLetters x, Model model, int count, int kinds) {
        StringBuilder all = new StringBuilder("letters");
        for (int i = 0; i < count; i++) {
            int letter = random.nextInt(12);
            int row = row(random, 4, kinds);
            x.setLetter(letter, row);
            model.setLetter(letter, row);
            all.append(' ').append((char) ('a' + letter)).append(row);
        }
        return all.toString();
    }

    private static String word(Random random, int knots, int kinds) {
        StringBuilder word = new StringBuilder();
        for (int i = 0; i < knots; i++) {
            word.append(1 + random.nextInt(kinds));
        }
        return word.toString();
    }

    private static void compare(String call, KnotLetters x, int cord, Model model, String due, String word) {
        Check.sameText(call, Check.read(x, cord), due);
        Check.same(call + ", cost", x.cord(cord, 4), model.apart(model.meantBy(due), word));
        Check.same(call + ", letters", x.cord(cord, 5), due.length());
    }

    private static void costs(Random random, KnotLetters x, Model model, int most) {
        int missed = 1 + random.nextInt(most);
        int ghost = 1 + random.nextInt(most);
        Check.same("setCosts", x.setCosts(missed, ghost), model.setCosts(missed, ghost));
        for (int a = 1; a <= 4; a++) {
            for (int b = a + 1; b <= 4; b++) {
                int cost = random.nextInt(most + 1);
                Check.same("setFeel", x.setFeel(a, b, cost), model.setFeel(b, a, cost));
            }
        }
    }

    private static void alphabet(Random random) {
        KnotLetters x = new KnotLetters();
        Model model = new Model();
        int kinds = 1 + random.nextInt(4);
        int most = 1 + random.nextInt(4);
        StringBuilder all = new StringBuilder("letters");
        for (int letters = random.nextInt(12); letters >= 0; letters--) {
            int letter = random.nextInt(12);
            int row = random.nextInt(8) == 0 ? x.advise() : row(random, most, kinds);
            x.setLetter(letter, row);
            model.setLetter(letter, row);
            all.append(' ').append((char) ('a' + letter)).append(row);
            Check.same(all + ", isFree", x.isFree() ? 1 : 0, model.isFree() ? 1 : 0);
            Check.same(all + ", isClear", x.isClear() ? 1 : 0, model.isClear() ? 1 : 0);
            Check.same(all + ", advise", x.advise(), model.advise());
            Check.sameDouble(all + ", mean", x.mean(), model.mean());
            Check.same(all + ", closest", x.closest(), model.closest());
        }
        oneWayOnly(all.toString(), x, model, kinds);
    }

    /** A clear alphabet reads no short row of knots in two ways. */
    private static void oneWayOnly(String letters, KnotLetters x, Model model, int kinds) {
        if (!x.isClear()) {
            return;
        }
        int rows = 1;
        for (int knots = 0; knots <= (kinds <= 2 ? 8 : 4); knots++) {
            for (int rank = 0; rank < rows; rank++) {
                StringBuilder word = new StringBuilder();
                int left = rank;
                for (int i = 0; i < knots; i++) {
                    word.append(1 + left % kinds);
                    left /= kinds;
                }
                int ways = model.exactRows(word.toString()).intValue();
                Check.holds(letters + " is clear, " + word, ways <= 1);
            }
            rows *= kinds;
        }
    }
}
