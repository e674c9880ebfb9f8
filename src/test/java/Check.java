import java.nio.charset.StandardCharsets;
import java.util.Arrays;

/** What the tests share: answers that are compared, exceptions that are due, and texts on tapes and cords. */
final class Check {
    private static int answers = 0;
    private static int wrong = 0;

    private Check() {
    }

    static void same(String call, long got, long due) {
        answers++;
        if (got != due) {
            wrong++;
            System.out.println(call + " answered " + got + ", due is " + due);
        }
    }

    static void sameText(String call, String got, String due) {
        answers++;
        if (!got.equals(due)) {
            wrong++;
            System.out.println(call + " answered \"" + got + "\", due is \"" + due + "\"");
        }
    }

    static void sameDouble(String call, double got, double due) {
        answers++;
        if (Double.compare(got, due) != 0) {
            wrong++;
            System.out.println(call + " answered " + got + ", due is " + due);
        }
    }

    static void holds(String call, boolean got) {
        same(call, got ? 1 : 0, 1);
    }

    static void fails(String call, boolean got) {
        same(call, got ? 1 : 0, 0);
    }

    /** The call is to throw just this exception, and to change nothing of the object. */
    static void throwing(KnotLetters x, Class<? extends RuntimeException> due, String call, Runnable run) {
        long before = state(x);
        String got = "nothing";
        try {
            run.run();
        } catch (RuntimeException e) {
            got = e.getClass().getSimpleName();
        }
        sameText(call + " throws:", got, due.getSimpleName());
        same(call + " throws, the state behind it:", state(x), before);
    }

    static void throwsIndex(KnotLetters x, String call, Runnable run) {
        throwing(x, IndexOutOfBoundsException.class, call, run);
    }

    static void throwsArgument(KnotLetters x, String call, Runnable run) {
        throwing(x, IllegalArgumentException.class, call, run);
    }

    static void throwsState(KnotLetters x, String call, Runnable run) {
        throwing(x, IllegalStateException.class, call, run);
    }

    /** All that can be asked without a change: what is set is set back. */
    private static long state(KnotLetters x) {
        long d = x.digest();
        int knotter = x.setKnotter(0, 0);
        x.setKnotter(knotter / 100, knotter % 100);
        int costs = x.setCosts(1, 1);
        x.setCosts(costs / 10, costs % 10);
        d = (d * 31 + knotter) * 31 + costs;
        for (int a = 1; a <= 4; a++) {
            for (int b = a + 1; b <= 4; b++) {
                int cost = x.setFeel(a, b, 0);
                x.setFeel(a, b, cost);
                d = d * 31 + cost;
            }
        }
        return d;
    }

    /** Puts a text of at most 80 bytes on the tape, which is to be empty. */
    static void tape(KnotLetters x, String text) {
        byte[] bytes = text.getBytes(StandardCharsets.ISO_8859_1);
        byte[] filled = Arrays.copyOf(bytes, (bytes.length + 19) / 20 * 20);
        for (int i = 0; i < filled.length; i += 20) {
            x.feed(number(filled, i), number(filled, i + 4), number(filled, i + 8),
                    number(filled, i + 12), number(filled, i + 16));
        }
        x.trim(bytes.length);
    }

    static int number(byte[] bytes, int from) {
        return (bytes[from] & 255) << 24 | (bytes[from + 1] & 255) << 16
                | (bytes[from + 2] & 255) << 8 | (bytes[from + 3] & 255);
    }

    static int tied(KnotLetters x, String text) {
        tape(x, text);
        return x.tie();
    }

    /** Sets the letters from a on to these rows. */
    static KnotLetters letters(int... rows) {
        KnotLetters x = new KnotLetters();
        for (int i = 0; i < rows.length; i++) {
            x.setLetter(i, rows[i]);
        }
        return x;
    }

    /** The knots of a cord as digits, a gap as 5. */
    static String knots(KnotLetters x, int cord) {
        StringBuilder text = new StringBuilder();
        for (int i = 0; i < x.cord(cord, 0); i++) {
            text.append(x.knot(cord, i));
        }
        return text.toString();
    }

    static String paper(KnotLetters x) {
        StringBuilder text = new StringBuilder();
        for (int i = 0; i < x.count(6); i++) {
            text.append((char) x.byteAt(i));
        }
        return text.toString();
    }

    static String read(KnotLetters x, int cord) {
        int bytes = x.read(cord);
        same("count(6) behind read", x.count(6), bytes);
        return paper(x);
    }

    /** Ties a cord of these knots and gaps (5) by letters of one knot each; letters and knotter are set back. */
    static int cordOf(KnotLetters x, String knots) {
        int[] rows = new int[5];
        for (int i = 0; i < 4; i++) {
            rows[i + 1] = x.setLetter(i, i + 1);
        }
        int errs = x.setKnotter(0, 0);
        StringBuilder text = new StringBuilder();
        for (char knot : knots.toCharArray()) {
            text.append(knot == '5' ? ' ' : (char) ('a' + knot - '1'));
        }
        int cord = tied(x, text.toString());
        x.setKnotter(errs / 100, errs % 100);
        for (int i = 0; i < 4; i++) {
            x.setLetter(i, rows[i + 1]);
        }
        return cord;
    }

    static void end(String test) {
        System.out.println(test + ": " + answers + " answers, " + wrong + " are not as due");
        if (wrong != 0) {
            System.exit(1);
        }
    }
}
