import java.nio.charset.StandardCharsets;
import java.util.Arrays;
import java.util.function.Consumer;
import java.util.function.Supplier;

/** What the tests share: answers that are compared, exceptions that are due, and texts on tapes and cords. */
final class Check {
    private static int answers = 0;
    private static int wrong = 0;

    private Check() {
    }

    static void same(String call, long got, long due) {
        answers++;
        if (got != due) {
            wrong++;
            System.out.println(call + " answered " + got + ", due is " + due);
        }
    }

    static void sameText(String call, String got, String due) {
        answers++;
        if (!got.equals(due)) {
            wrong++;
            System.out.println(call + " answered \"" + got + "\", due is \"" + due + "\"");
        }
    }

    static void sameDouble(String call, double got, double due) {
        answers++;
        if (Double.compare(got, due) != 0) {
            wrong++;
            System.out.println(call + " answered " + got + ", due is " + due);
        }
    }

    static void holds(String call, boolean got) {
        same(call, got ? 1 : 0, 1);
    }

    static void fails(String call, boolean got) {
        same(call, got ? 1 : 0, 0);
    }

    /** The call is to throw just this exception, and to leave the checksum. */
    static void throwing(KnotLetters x, Class<? extends RuntimeException> due, String call, Runnable run) {
        long before = x.digest();
        sameText(call + " throws:", thrownBy(run), due.getSimpleName());
        same(call + " throws, the checksum behind it:", x.digest(), before);
    }

    private static String thrownBy(Runnable run) {
        try {
            run.run();
        } catch (RuntimeException e) {
            return e.getClass().getSimpleName();
        }
        return "nothing";
    }

    /** The call is to throw just this exception, and to leave its object as a twin that was not asked. */
    static void refused(Class<? extends RuntimeException> due, String call, Supplier<KnotLetters> maker,
            Consumer<KnotLetters> run) {
        KnotLetters asked = maker.get();
        sameText(call + " throws:", thrownBy(() -> run.accept(asked)), due.getSimpleName());
        sameText(call + " throws, all that is told behind it:", everything(asked), everything(maker.get()));
    }

    static void refusedIndex(String call, Supplier<KnotLetters> maker, Consumer<KnotLetters> run) {
        refused(IndexOutOfBoundsException.class, call, maker, run);
    }

    static void refusedArgument(String call, Supplier<KnotLetters> maker, Consumer<KnotLetters> run) {
        refused(IllegalArgumentException.class, call, maker, run);
    }

    static void refusedState(String call, Supplier<KnotLetters> maker, Consumer<KnotLetters> run) {
        refused(IllegalStateException.class, call, maker, run);
    }

    static void throwsIndex(KnotLetters x, String call, Runnable run) {
        throwing(x, IndexOutOfBoundsException.class, call, run);
    }

    static void throwsArgument(KnotLetters x, String call, Runnable run) {
        throwing(x, IllegalArgumentException.class, call, run);
    }

    static void throwsState(KnotLetters x, String call, Runnable run) {
        throwing(x, IllegalStateException.class, call, run);
    }

    /** All that an object tells; it is of no use behind this, for letters, costs, tape and cords are changed. */
    static String everything(KnotLetters x) {
        StringBuilder all = new StringBuilder("digest ").append(x.digest());
        all.append(", knotter ").append(x.setKnotter(0, 0)).append(", costs ").append(x.setCosts(4, 4));
        for (int a = 1; a <= 4; a++) {
            for (int b = a + 1; b <= 4; b++) {
                all.append(", ").append(a).append(" for ").append(b).append(' ').append(x.setFeel(a, b, 3));
            }
        }
        if (x.count(1) < 10) {
            all.append(", tape ").append(tapeOf(x));
        }
        return all.toString();
    }

    /** The first twenty bytes of the tape as they are tied by letters of two knots each; -1 if they are not tied. */
    private static String tapeOf(KnotLetters x) {
        for (int letter = 0; letter < 12; letter++) {
            x.setLetter(letter, 10 * (1 + letter / 4) + 1 + letter % 4);
        }
        x.trim(Math.min(20, x.count(5)));
        int cord = x.tie();
        return cord < 0 ? "-1" : knots(x, cord);
    }

    /**
     * Runs the test of one sentence of the document. What it finds is told with the sentence; a test that
     * looks at no answer is not as due.
     */
    static void sentence(String text, Runnable test) {
        int answersBefore = answers;
        int wrongBefore = wrong;
        test.run();
        holds("a test that looks at answers", answers > answersBefore);
        if (wrong != wrongBefore) {
            System.out.println("    of the sentence: " + text);
        }
    }

    /** Puts a text of at most 80 bytes on the tape, which is to be empty. */
    static void tape(KnotLetters x, String text) {
        byte[] bytes = text.getBytes(StandardCharsets.ISO_8859_1);
        byte[] filled = Arrays.copyOf(bytes, (bytes.length + 19) / 20 * 20);
        for (int i = 0; i < filled.length; i += 20) {
            x.feed(number(filled, i), number(filled, i + 4), number(filled, i + 8),
                    number(filled, i + 12), number(filled, i + 16));
        }
        x.trim(bytes.length);
    }

    static int number(byte[] bytes, int from) {
        return (bytes[from] & 255) << 24 | (bytes[from + 1] & 255) << 16
                | (bytes[from + 2] & 255) << 8 | (bytes[from + 3] & 255);
    }

    static int tied(KnotLetters x, String text) {
        tape(x, text);
        return x.tie();
    }

    /** Sets the letters from a on to these rows. */
    static KnotLetters letters(int... rows) {
        KnotLetters x = new KnotLetters();
        for (int i = 0; i < rows.length; i++) {
            x.setLetter(i, rows[i]);
        }
        return x;
    }

    /** An alphabet, of which everything is in use: letters, knotter, costs, cords, paper and tape. */
    static KnotLetters busy() {
        KnotLetters x = letters(12, 3, 0, 4443, 0, 0, 0, 0, 0, 0, 0, 2);
        x.setKnotter(5, 7);
        x.setCosts(2, 6);
        x.setFeel(1, 4, 7);
        x.setFeel(2, 3, 0);
        tied(x, "ab d l");
        tied(x, "");
        tied(x, " bb");
        x.read(0);
        tape(x, "ba lab");
        return x;
    }

    /** The knots of a cord as digits, a gap as 5. */
    static String knots(KnotLetters x, int cord) {
        StringBuilder text = new StringBuilder();
        int size = x.cord(cord, 0);
        for (int i = 0; i < size; i++) {
            text.append(x.knot(cord, i));
        }
        return text.toString();
    }

    static String paper(KnotLetters x) {
        StringBuilder text = new StringBuilder();
        int size = x.count(6);
        for (int i = 0; i < size; i++) {
            text.append((char) x.byteAt(i));
        }
        return text.toString();
    }

    static String read(KnotLetters x, int cord) {
        int bytes = x.read(cord);
        same("count(6) behind read", x.count(6), bytes);
        return paper(x);
    }

    /** Ties a cord of these knots and gaps (5) by letters of one knot each; letters and knotter are set back. */
    static int cordOf(KnotLetters x, String knots) {
        int[] rows = new int[5];
        for (int i = 0; i < 4; i++) {
            rows[i + 1] = x.setLetter(i, i + 1);
        }
        int errs = x.setKnotter(0, 0);
        StringBuilder text = new StringBuilder();
        for (char knot : knots.toCharArray()) {
            text.append(knot == '5' ? ' ' : (char) ('a' + knot - '1'));
        }
        int cord = tied(x, text.toString());
        x.setKnotter(errs / 100, errs % 100);
        for (int i = 0; i < 4; i++) {
            x.setLetter(i, rows[i + 1]);
        }
        return cord;
    }

    static void end(String test) {
        System.out.println(test + ": " + answers + " answers, " + wrong + " are not as due");
        if (wrong != 0) {
            System.exit(1);
        }
    }
}
