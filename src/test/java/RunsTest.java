import java.util.Random;
import java.util.concurrent.Callable;

/** Runs of as many calls as an object is used for, each compared with the model, with right and wrong arguments. */
public final class RunsTest {
    private static final int CALLS = 512;

    private final Random random;
    private final KnotLetters x = new KnotLetters();
    private final Model model = new Model();
    private final int kinds;
    private final int most;
    private final StringBuilder calls = new StringBuilder();
    private int used;

    private RunsTest(int seed) {
        random = new Random(seed);
        kinds = 1 + random.nextInt(4);
        most = 1 + random.nextInt(4);
        calls.append("run ").append(seed).append(": ");
    }

    public static void main(String[] args) {
        for (int seed = 1; seed <= 100; seed++) {
            new RunsTest(seed).run();
        }
        Check.end("RunsTest");
    }

    private void run() {
        while (used < CALLS - 1) {
            if (random.nextInt(3) == 0) {
                askAlphabet();
            } else if (random.nextInt(3) == 0) {
                set();
            } else {
                useCords();
            }
        }
        compare("digest()", x::digest, model::digest);
    }

    /** Mostly from least to most, now and then beyond. */
    private int near(int least, int mostOfAll) {
        switch (random.nextInt(40)) {
            case 0:
                return least - 1;
            case 1:
                return mostOfAll + 1;
            case 2:
                return random.nextInt();
            default:
                return least + random.nextInt(Math.max(1, mostOfAll - least + 1));
        }
    }

    private int row() {
        if (random.nextInt(10) == 0) {
            return near(0, 4500);
        }
        int row = 0;
        for (int knots = random.nextInt(most + 1); knots > 0; knots--) {
            row = row * 10 + 1 + random.nextInt(kinds);
        }
        return row;
    }

    private int cordNumber() {
        return near(0, model.cords.size() - 1);
    }

    private void compare(String call, Callable<Object> ours, Callable<Object> theirs) {
        used++;
        Check.sameText(calls + call, told(ours), told(theirs));
    }

    private static String told(Callable<Object> call) {
        try {
            return String.valueOf(call.call());
        } catch (Exception e) {
            return e.getClass().getSimpleName();
        }
    }

    private void askAlphabet() {
        int a = near(0, 11);
        int b = near(0, 11);
        int what = near(0, 2);
        switch (random.nextInt(7)) {
            case 0:
                compare("isFree()", x::isFree, model::isFree);
                break;
            case 1:
                compare("isClear()", x::isClear, model::isClear);
                break;
            case 2:
                compare("alike(" + a + ", " + b + ")", () -> x.alike(a, b), () -> model.alike(a, b));
                break;
            case 3:
                compare("closest()", x::closest, model::closest);
                break;
            case 4:
                compare("advise()", x::advise, model::advise);
                break;
            case 5:
                compare("mean()", x::mean, model::mean);
                break;
            default:
                compare("letter(" + a + ", " + what + ")", () -> x.letter(a, what), () -> model.letter(a, what));
                break;
        }
    }

    private void set() {
        int a = near(1, 4);
        int b = near(1, 4);
        int cost = near(0, 9);
        int missed = near(1, 9);
        int ghost = near(1, 9);
        int slip = near(0, random.nextBoolean() ? 99 : 6);
        int skip = near(0, random.nextBoolean() ? 99 : 6);
        int letter = near(0, 11);
        int row = row();
        switch (random.nextInt(6)) {
            case 0:
                compare("setFeel(" + a + ", " + b + ", " + cost + ")",
                        () -> x.setFeel(a, b, cost), () -> model.setFeel(a, b, cost));
                break;
            case 1:
                compare("setCosts(" + missed + ", " + ghost + ")",
                        () -> x.setCosts(missed, ghost), () -> model.setCosts(missed, ghost));
                break;
            case 2:
                compare("setKnotter(" + slip + ", " + skip + ")",
                        () -> x.setKnotter(slip, skip), () -> model.setKnotter(slip, skip));
                break;
            default:
                compare("setLetter(" + letter + ", " + row + ")",
                        () -> x.setLetter(letter, row), () -> model.setLetter(letter, row));
                break;
        }
    }

    private void useCords() {
        switch (random.nextInt(13)) {
            case 0:
                feed();
                break;
            case 1:
                int n = near(0, model.tape.size());
                compare("trim(" + n + ")", () -> x.trim(n), () -> model.trim(n));
                break;
            case 2:
                compare("tie()", x::tie, model::tie);
                break;
            case 3:
                int index = near(0, model.paper.length() - 1);
                compare("byteAt(" + index + ")", () -> x.byteAt(index), () -> model.byteAt(index));
                break;
            case 4:
                int what = near(0, 6);
                compare("count(" + what + ")", () -> x.count(what), () -> model.count(what));
                break;
            case 5:
                compare("digest()", x::digest, model::digest);
                break;
            default:
                useCord();
                break;
        }
    }

    /** Twenty bytes, most of them letters with knots. */
    private void feed() {
        int[] five = new int[5];
        for (int i = 0; i < 20; i++) {
            int sign = random.nextInt(60) == 0 ? random.nextInt(256) : ' ';
            for (int tries = random.nextInt(8); tries > 0 && sign == ' '; tries--) {
                int letter = random.nextInt(12);
                sign = model.rows[letter].isEmpty() ? ' ' : 'a' + letter;
            }
            five[i / 4] = five[i / 4] << 8 | sign;
        }
        compare("feed", () -> x.feed(five[0], five[1], five[2], five[3], five[4]), () -> model.feed(five));
    }

    private void useCord() {
        int cord = cordNumber();
        int other = cordNumber();
        int what = near(0, 6);
        int index = near(0, model.cords.isEmpty() ? 0 : model.cords.get(0).length());
        int kind = near(1, 4);
        switch (random.nextInt(6)) {
            case 0:
                compare("distance(" + cord + ", " + other + ")",
                        () -> x.distance(cord, other), () -> model.distance(cord, other));
                break;
            case 1:
                compare("nearest(" + cord + ")", () -> x.nearest(cord), () -> model.nearest(cord));
                break;
            case 2:
                compare("read(" + cord + ")", () -> x.read(cord), () -> model.read(cord));
                break;
            case 3:
                compare("retie(" + cord + ", " + index + ", " + kind + ")",
                        () -> x.retie(cord, index, kind), () -> model.retie(cord, index, kind));
                break;
            case 4:
                compare("knot(" + cord + ", " + index + ")", () -> x.knot(cord, index), () -> model.knot(cord, index));
                break;
            default:
                compare("cord(" + cord + ", " + what + ")", () -> x.cord(cord, what), () -> model.cord(cord, what));
                break;
        }
    }
}
