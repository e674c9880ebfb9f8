import java.math.BigInteger;
import java.nio.ByteBuffer;
import java.util.ArrayList;
import java.util.HashSet;
import java.util.List;
import java.util.Set;

/**
 * The document once more, by other means than the class: rows and cords are texts, readings are whole texts
 * that are compared as texts, and counts have no bound. It is slow and makes many objects.
 */
final class Model {
    final String[] rows = new String[12];
    final int[] ties = new int[12];
    final int[][] feel = new int[5][5];
    final List<StringBuilder> cords = new ArrayList<>();
    final List<int[]> errors = new ArrayList<>();
    final List<Integer> tape = new ArrayList<>();
    String paper = "";
    int slip;
    int skip;
    int missed = 4;
    int ghost = 4;
    int counted;
    int slipped;
    int leftOut;

    Model() {
        for (int i = 0; i < 12; i++) {
            rows[i] = "";
        }
        for (int a = 1; a <= 4; a++) {
            for (int b = 1; b <= 4; b++) {
                feel[a][b] = a == b ? 0 : 3;
            }
        }
    }

    static boolean isRow(int row) {
        return String.valueOf(row).matches("[1-4]{1,4}");
    }

    private static void index(boolean isRight) {
        if (!isRight) {
            throw new IndexOutOfBoundsException();
        }
    }

    private static void argument(boolean isRight) {
        if (!isRight) {
            throw new IllegalArgumentException();
        }
    }

    private static void state(boolean isRight) {
        if (!isRight) {
            throw new IllegalStateException();
        }
    }

    private static boolean within(int x, int least, int most) {
        return x >= least && x <= most;
    }

    int setLetter(int letter, int row) {
        index(within(letter, 0, 11));
        argument(row == 0 || isRow(row));
        int before = letter(letter, 0);
        rows[letter] = row == 0 ? "" : String.valueOf(row);
        return before;
    }

    int letter(int letter, int what) {
        index(within(letter, 0, 11) && within(what, 0, 2));
        int row = rows[letter].isEmpty() ? 0 : Integer.parseInt(rows[letter]);
        return what == 0 ? row : what == 1 ? rows[letter].length() : ties[letter];
    }

    private List<String> used() {
        List<String> used = new ArrayList<>();
        for (String row : rows) {
            if (!row.isEmpty()) {
                used.add(row);
            }
        }
        return used;
    }

    boolean isFree() {
        List<String> used = used();
        for (int a = 0; a < used.size(); a++) {
            for (int b = 0; b < used.size(); b++) {
                if (a != b && used.get(b).startsWith(used.get(a))) {
                    return false;
                }
            }
        }
        return true;
    }

    /** Follows the sets of dangling ends of Sardinas and Patterson until one comes again. */
    boolean isClear() {
        List<String> used = used();
        Set<String> code = new HashSet<>(used);
        if (code.size() < used.size()) {
            return false;
        }
        Set<Set<String>> met = new HashSet<>();
        Set<String> ends = behind(code, code);
        ends.remove("");
        while (!ends.isEmpty() && met.add(ends)) {
            Set<String> next = behind(code, ends);
            next.addAll(behind(ends, code));
            if (next.contains("")) {
                return false;
            }
            ends = next;
        }
        return true;
    }

    private static Set<String> behind(Set<String> heads, Set<String> wholes) {
        Set<String> ends = new HashSet<>();
        for (String head : heads) {
            for (String whole : wholes) {
                if (whole.startsWith(head)) {
                    ends.add(whole.substring(head.length()));
                }
            }
        }
        return ends;
    }

    int alike(int a, int b) {
        index(within(a, 0, 11) && within(b, 0, 11));
        return rows[a].isEmpty() || rows[b].isEmpty() ? -1 : apart(rows[a], rows[b]);
    }

    int closest() {
        int found = -1;
        for (int pair = 143; pair >= 0; pair--) {
            int a = pair / 12;
            int b = pair % 12;
            if (a < b && alike(a, b) >= 0 && (found < 0 || alike(a, b) <= alike(found / 12, found % 12))) {
                found = pair;
            }
        }
        return found;
    }

    int advise() {
        for (int row = 1; row <= 4444; row++) {
            String text = String.valueOf(row);
            if (isRow(row) && used().stream().noneMatch(r -> r.startsWith(text) || text.startsWith(r))) {
                return row;
            }
        }
        return 0;
    }

    int setKnotter(int newSlip, int newSkip) {
        argument(within(newSlip, 0, 99) && within(newSkip, 0, 99));
        int before = slip * 100 + skip;
        slip = newSlip;
        skip = newSkip;
        return before;
    }

    int setFeel(int a, int b, int cost) {
        argument(within(a, 1, 4) && within(b, 1, 4) && a != b && within(cost, 0, 9));
        int before = feel[a][b];
        feel[a][b] = cost;
        feel[b][a] = cost;
        return before;
    }

    int setCosts(int newMissed, int newGhost) {
        argument(within(newMissed, 1, 9) && within(newGhost, 1, 9));
        int before = missed * 10 + ghost;
        missed = newMissed;
        ghost = newGhost;
        return before;
    }

    int feed(int... numbers) {
        state(tape.size() + 20 <= 80);
        for (int number : numbers) {
            for (byte b : ByteBuffer.allocate(4).putInt(number).array()) {
                tape.add(Byte.toUnsignedInt(b));
            }
        }
        return tape.size();
    }

    int trim(int n) {
        argument(within(n, 0, tape.size()));
        tape.subList(n, tape.size()).clear();
        return n;
    }

    private String rowOf(int sign) {
        return within(sign, 'a', 'l') ? rows[sign - 'a'] : "";
    }

    int tie() {
        int places = 0;
        boolean isText = true;
        for (int sign : tape) {
            places += sign == ' ' ? 1 : rowOf(sign).length();
            isText &= sign == ' ' || !rowOf(sign).isEmpty();
        }
        state(cords.size() < 10 && places <= 40);
        if (!isText) {
            return -1;
        }
        StringBuilder cord = new StringBuilder();
        int[] error = new int[2];
        for (int sign : tape) {
            if (sign == ' ') {
                cord.append('5');
            } else {
                ties[sign - 'a']++;
                for (char knot : rowOf(sign).toCharArray()) {
                    tieKnot(cord, knot, error);
                }
            }
        }
        slipped += error[0];
        leftOut += error[1];
        tape.clear();
        cords.add(cord);
        errors.add(error);
        return cords.size() - 1;
    }

    private void tieKnot(StringBuilder cord, char knot, int[] error) {
        counted++;
        if (skip > 0 && counted % skip == 0) {
            error[1]++;
        } else if (slip > 0 && counted % slip == 0) {
            error[0]++;
            cord.append("2341".charAt(knot - '1'));
        } else {
            cord.append(knot);
        }
    }

    private boolean isCord(int cord) {
        return within(cord, 0, cords.size() - 1);
    }

    int cord(int cord, int what) {
        index(isCord(cord) && within(what, 0, 6));
        String knots = cords.get(cord).toString();
        switch (what) {
            case 0:
                return knots.length();
            case 1:
                return knots.replaceAll("[1-4]", "").length();
            case 2:
                return errors.get(cord)[0];
            case 3:
                return errors.get(cord)[1];
            case 4:
                return cost(knots);
            case 5:
                return text(knots).replace(" ", "").length();
            default:
                return exactRows(knots).min(BigInteger.valueOf(1000000)).intValue();
        }
    }

    private boolean isPlace(int cord, int index) {
        return isCord(cord) && within(index, 0, cords.get(cord).length() - 1);
    }

    int knot(int cord, int index) {
        index(isPlace(cord, index));
        return cords.get(cord).charAt(index) - '0';
    }

    int retie(int cord, int index, int kind) {
        index(isPlace(cord, index));
        argument(within(kind, 1, 4));
        int before = knot(cord, index);
        state(before != 5);
        cords.get(cord).setCharAt(index, (char) ('0' + kind));
        return before;
    }

    int distance(int a, int b) {
        index(isCord(a) && isCord(b));
        return apart(cords.get(a).toString(), cords.get(b).toString());
    }

    int nearest(int cord) {
        index(isCord(cord));
        int found = -1;
        for (int other = cords.size() - 1; other >= 0; other--) {
            if (other != cord && (found < 0 || distance(cord, other) <= distance(cord, found))) {
                found = other;
            }
        }
        return found;
    }

    int read(int cord) {
        index(isCord(cord));
        paper = text(cords.get(cord).toString());
        return paper.length();
    }

    int byteAt(int index) {
        index(within(index, 0, paper.length() - 1));
        return paper.charAt(index);
    }

    int count(int what) {
        index(within(what, 0, 6));
        return new int[] {used().size(), cords.size(), counted, slipped, leftOut, tape.size(), paper.length()}[what];
    }

    double mean() {
        return used().stream().mapToInt(String::length).average().orElse(0);
    }

    long digest() {
        List<Integer> numbers = new ArrayList<>();
        for (int what = 0; what < 7; what++) {
            numbers.add(count(what));
        }
        for (int i = 0; i < 36; i++) {
            numbers.add(letter(i / 3, i % 3));
        }
        for (int cord = 0; cord < cords.size(); cord++) {
            for (int what = 0; what < 7; what++) {
                numbers.add(cord(cord, what));
            }
            cords.get(cord).chars().forEach(c -> numbers.add(c - '0'));
        }
        paper.chars().forEach(numbers::add);
        long d = 571;
        for (int x : numbers) {
            d = d * 31 + x;
        }
        return d;
    }

    /** The distance from the first row to the second one; 5 is a gap. */
    int apart(String meant, String there) {
        return apart(meant, there, new Integer[meant.length() + 1][there.length() + 1]);
    }

    private int apart(String meant, String there, Integer[][] known) {
        int m = meant.length();
        int t = there.length();
        if (known[m][t] == null) {
            int least = m == 0 && t == 0 ? 0 : Integer.MAX_VALUE;
            if (m > 0) {
                int cost = meant.charAt(0) == '5' ? 9 : missed;
                least = Math.min(least, cost + apart(meant.substring(1), there, known));
            }
            if (t > 0) {
                int cost = there.charAt(0) == '5' ? 9 : ghost;
                least = Math.min(least, cost + apart(meant, there.substring(1), known));
            }
            if (m > 0 && t > 0 && (meant.charAt(0) == '5') == (there.charAt(0) == '5')) {
                int cost = meant.charAt(0) == '5' ? 0 : feel[meant.charAt(0) - '0'][there.charAt(0) - '0'];
                least = Math.min(least, cost + apart(meant.substring(1), there.substring(1), known));
            }
            known[m][t] = least;
        }
        return known[m][t];
    }

    int cost(String knots) {
        int sum = 0;
        for (String word : knots.split("5", -1)) {
            sum += apart(meantBy(best(word)), word);
        }
        return sum;
    }

    String text(String knots) {
        List<String> words = new ArrayList<>();
        for (String word : knots.split("5", -1)) {
            words.add(best(word));
        }
        return String.join(" ", words);
    }

    String meantBy(String letters) {
        StringBuilder knots = new StringBuilder();
        for (char letter : letters.toCharArray()) {
            knots.append(rows[letter - 'a']);
        }
        return knots.toString();
    }

    /** The best reading of a word, by the best ones of all its ends: the first letter takes some knots ahead of one. */
    String best(String word) {
        String[] best = new String[word.length() + 1];
        int[] costs = new int[word.length() + 1];
        for (int from = word.length(); from >= 0; from--) {
            best[from] = "";
            costs[from] = (word.length() - from) * ghost;
            for (int to = from + 1; to <= word.length(); to++) {
                for (int letter = 0; letter < 12; letter++) {
                    if (!rows[letter].isEmpty()) {
                        int cost = apart(rows[letter], word.substring(from, to)) + costs[to];
                        String reading = (char) ('a' + letter) + best[to];
                        if (isBetter(cost, reading, costs[from], best[from])) {
                            costs[from] = cost;
                            best[from] = reading;
                        }
                    }
                }
            }
        }
        return best[0];
    }

    static boolean isBetter(int cost, String reading, int otherCost, String other) {
        if (cost != otherCost) {
            return cost < otherCost;
        }
        if (reading.length() != other.length()) {
            return reading.length() < other.length();
        }
        return reading.compareTo(other) < 0;
    }

    /** The best reading of a word of all those with at most so many letters, each looked at by itself. */
    String bestOfAll(String word, int most) {
        String best = "";
        int least = apart("", word);
        List<String> readings = List.of("");
        for (int letters = 1; letters <= most; letters++) {
            List<String> longer = new ArrayList<>();
            for (String reading : readings) {
                for (int letter = 0; letter < 12; letter++) {
                    if (!rows[letter].isEmpty()) {
                        longer.add(reading + (char) ('a' + letter));
                    }
                }
            }
            for (String reading : longer) {
                int cost = apart(meantBy(reading), word);
                if (isBetter(cost, reading, least, best)) {
                    least = cost;
                    best = reading;
                }
            }
            readings = longer;
        }
        return best;
    }

    BigInteger exactRows(String knots) {
        BigInteger product = BigInteger.ONE;
        for (String word : knots.split("5", -1)) {
            BigInteger[] ways = new BigInteger[word.length() + 1];
            ways[0] = BigInteger.ONE;
            for (int to = 1; to <= word.length(); to++) {
                ways[to] = BigInteger.ZERO;
                for (String row : used()) {
                    if (word.substring(0, to).endsWith(row)) {
                        ways[to] = ways[to].add(ways[to - row.length()]);
                    }
                }
            }
            product = product.multiply(ways[word.length()]);
        }
        return product;
    }
}
