import java.util.Arrays;

/** An alphabet of knots, the cords that are tied with it, and a reader who feels them. */
public final class KnotLetters {
    private static final int LETTERS = 12;
    private static final int LETTER_KNOTS = 4;
    private static final int KINDS = 4;
    private static final int GAP = 5;
    private static final int CORDS = 10;
    private static final int CORD_PLACES = 40;
    private static final int TAPE_BYTES = 80;
    private static final int FEED_BYTES = 20;
    private static final int BLANK = 32;
    private static final int FIRST_LETTER = 97;
    private static final int MOST_ERRING = 99;
    private static final int LETTER_TELLS = 3;
    private static final int CORD_TELLS = 7;
    private static final int COUNT_TELLS = 7;
    private static final int NONE = -1;

    private final Alphabet alphabet;
    private final Knotter knotter;
    private final Costs costs;
    private final Reader reader;
    private final Cord[] cords;
    private int cordCount;
    private final int[] tape;
    private int tapeSize;
    private final int[] paper;
    private int paperSize;

    public KnotLetters() {
        alphabet = new Alphabet();
        knotter = new Knotter();
        costs = new Costs();
        reader = new Reader(alphabet, costs);
        cords = new Cord[CORDS];
        for (int i = 0; i < CORDS; i++) {
            cords[i] = new Cord();
        }
        tape = new int[TAPE_BYTES];
        paper = new int[CORD_PLACES];
    }

    // ---- the alphabet

    public int setLetter(int letter, int row) throws IndexOutOfBoundsException, IllegalArgumentException {
        if (isNoLetter(letter)) {
            throw new IndexOutOfBoundsException("letter is 0 to 11");
        }
        if (row != 0 && !Alphabet.isRow(row)) {
            throw new IllegalArgumentException("row is 0 or has 1 to 4 digits from 1 to 4");
        }
        int before = alphabet.rows[letter];
        alphabet.put(letter, row);
        return before;
    }

    public int letter(int letter, int what) throws IndexOutOfBoundsException {
        if (isNoLetter(letter) || what < 0 || what >= LETTER_TELLS) {
            throw new IndexOutOfBoundsException("letter is 0 to 11, what is 0 to 2");
        }
        switch (what) {
            case 0:
                return alphabet.rows[letter];
            case 1:
                return alphabet.sizes[letter];
            default:
                return alphabet.ties[letter];
        }
    }

    public boolean isFree() {
        for (int letter = 0; letter < LETTERS; letter++) {
            if (alphabet.rows[letter] != 0 && alphabet.clashes(alphabet.rows[letter], letter + 1)) {
                return false;
            }
        }
        return true;
    }

    public boolean isClear() {
        return alphabet.hasOneReading();
    }

    public int alike(int a, int b) throws IndexOutOfBoundsException {
        if (isNoLetter(a) || isNoLetter(b)) {
            throw new IndexOutOfBoundsException("a and b are 0 to 11");
        }
        return letterDistance(a, b);
    }

    public int closest() {
        int pair = NONE;
        int least = 0;
        for (int a = 0; a < LETTERS; a++) {
            for (int b = a + 1; b < LETTERS; b++) {
                int apart = letterDistance(a, b);
                if (apart != NONE && (pair == NONE || apart < least)) {
                    pair = LETTERS * a + b;
                    least = apart;
                }
            }
        }
        return pair;
    }

    public int advise() {
        for (int rank = 1; rank <= Alphabet.ROWS; rank++) {
            int row = Alphabet.rowOfRank(rank);
            if (!alphabet.clashes(row, 0)) {
                return row;
            }
        }
        return 0;
    }

    // ---- the knotter and the reader

    public int setKnotter(int slip, int skip) throws IllegalArgumentException {
        if (slip < 0 || slip > MOST_ERRING || skip < 0 || skip > MOST_ERRING) {
            throw new IllegalArgumentException("slip and skip are 0 to 99");
        }
        int before = 100 * knotter.slip + knotter.skip;
        knotter.slip = slip;
        knotter.skip = skip;
        return before;
    }

    public int setFeel(int a, int b, int cost) throws IllegalArgumentException {
        if (isNoKind(a) || isNoKind(b) || a == b || cost < 0 || cost > Costs.MOST) {
            throw new IllegalArgumentException("a and b are two kinds, cost is 0 to 9");
        }
        int before = costs.taking(a, b);
        costs.putTaking(a, b, cost);
        return before;
    }

    public int setCosts(int missed, int ghost) throws IllegalArgumentException {
        if (missed < 1 || missed > Costs.MOST || ghost < 1 || ghost > Costs.MOST) {
            throw new IllegalArgumentException("missed and ghost are 1 to 9");
        }
        int before = 10 * costs.missed + costs.ghost;
        costs.missed = missed;
        costs.ghost = ghost;
        return before;
    }

    // ---- cords

    public int feed(int a, int b, int c, int d, int e) throws IllegalStateException {
        if (tapeSize + FEED_BYTES > TAPE_BYTES) {
            throw new IllegalStateException("the tape has at most 80 bytes");
        }
        appendNumber(a);
        appendNumber(b);
        appendNumber(c);
        appendNumber(d);
        appendNumber(e);
        return tapeSize;
    }

    public int trim(int n) throws IllegalArgumentException {
        if (n < 0 || n > tapeSize) {
            throw new IllegalArgumentException("n is 0 to the number of bytes of the tape");
        }
        tapeSize = n;
        return n;
    }

    public int tie() throws IllegalStateException {
        if (cordCount >= CORDS || placesOnTape() > CORD_PLACES) {
            throw new IllegalStateException("there are at most 10 cords of 40 knots and gaps");
        }
        if (!isTapeText()) {
            return NONE;
        }
        Cord cord = cords[cordCount];
        for (int i = 0; i < tapeSize; i++) {
            tieByte(cord, tape[i]);
        }
        tapeSize = 0;
        cordCount++;
        return cordCount - 1;
    }

    public int cord(int cord, int what) throws IndexOutOfBoundsException {
        if (isNoCord(cord) || what < 0 || what >= CORD_TELLS) {
            throw new IndexOutOfBoundsException("there is no such cord, or what is not 0 to 6");
        }
        switch (what) {
            case 0:
                return cords[cord].size;
            case 1:
                return cords[cord].gaps;
            case 2:
                return cords[cord].slipped;
            case 3:
                return cords[cord].leftOut;
            case 4:
                return Reader.costIn(reader.weightOf(cords[cord]));
            case 5:
                return Reader.lettersIn(reader.weightOf(cords[cord]));
            default:
                return reader.exactRowsOf(cords[cord]);
        }
    }

    public int knot(int cord, int index) throws IndexOutOfBoundsException {
        if (isNoPlace(cord, index)) {
            throw new IndexOutOfBoundsException("there is no such cord or place");
        }
        return cords[cord].places[index];
    }

    public int retie(int cord, int index, int kind)
            throws IndexOutOfBoundsException, IllegalArgumentException, IllegalStateException {
        if (isNoPlace(cord, index)) {
            throw new IndexOutOfBoundsException("there is no such cord or place");
        }
        if (isNoKind(kind)) {
            throw new IllegalArgumentException("kind is 1 to 4");
        }
        int before = cords[cord].places[index];
        if (before == GAP) {
            throw new IllegalStateException("a gap is there");
        }
        cords[cord].places[index] = kind;
        return before;
    }

    public int distance(int a, int b) throws IndexOutOfBoundsException {
        if (isNoCord(a) || isNoCord(b)) {
            throw new IndexOutOfBoundsException("there is no such cord");
        }
        return cordDistance(a, b);
    }

    public int nearest(int cord) throws IndexOutOfBoundsException {
        if (isNoCord(cord)) {
            throw new IndexOutOfBoundsException("there is no such cord");
        }
        int found = NONE;
        int least = 0;
        for (int other = 0; other < cordCount; other++) {
            if (other != cord) {
                int apart = cordDistance(cord, other);
                if (found == NONE || apart < least) {
                    found = other;
                    least = apart;
                }
            }
        }
        return found;
    }

    public int read(int cord) throws IndexOutOfBoundsException {
        if (isNoCord(cord)) {
            throw new IndexOutOfBoundsException("there is no such cord");
        }
        paperSize = reader.writeText(cords[cord], paper);
        return paperSize;
    }

    public int byteAt(int index) throws IndexOutOfBoundsException {
        if (index < 0 || index >= paperSize) {
            throw new IndexOutOfBoundsException("there is no such place on the paper");
        }
        return paper[index];
    }

    public int count(int what) throws IndexOutOfBoundsException {
        if (what < 0 || what >= COUNT_TELLS) {
            throw new IndexOutOfBoundsException("what is 0 to 6");
        }
        switch (what) {
            case 0:
                return alphabet.lettersWithKnots();
            case 1:
                return cordCount;
            case 2:
                return knotter.counted;
            case 3:
                return knotter.slipped;
            case 4:
                return knotter.leftOut;
            case 5:
                return tapeSize;
            default:
                return paperSize;
        }
    }

    public double mean() {
        int letters = alphabet.lettersWithKnots();
        if (letters == 0) {
            return 0;
        }
        int knots = 0;
        for (int letter = 0; letter < LETTERS; letter++) {
            knots += alphabet.sizes[letter];
        }
        return (double) knots / letters;
    }

    public long digest() {
        long d = 571;
        for (int what = 0; what < COUNT_TELLS; what++) {
            d = mixed(d, count(what));
        }
        for (int letter = 0; letter < LETTERS; letter++) {
            for (int what = 0; what < LETTER_TELLS; what++) {
                d = mixed(d, letter(letter, what));
            }
        }
        for (int cord = 0; cord < cordCount; cord++) {
            for (int what = 0; what < CORD_TELLS; what++) {
                d = mixed(d, cord(cord, what));
            }
            for (int index = 0; index < cords[cord].size; index++) {
                d = mixed(d, cords[cord].places[index]);
            }
        }
        for (int index = 0; index < paperSize; index++) {
            d = mixed(d, paper[index]);
        }
        return d;
    }

    // ---- what the calls share

    private static boolean isNoLetter(int letter) {
        return letter < 0 || letter >= LETTERS;
    }

    private static boolean isNoKind(int kind) {
        return kind < 1 || kind > KINDS;
    }

    private boolean isNoCord(int cord) {
        return cord < 0 || cord >= cordCount;
    }

    private boolean isNoPlace(int cord, int index) {
        return isNoCord(cord) || index < 0 || index >= cords[cord].size;
    }

    private static long mixed(long d, int x) {
        return d * 31 + x;
    }

    /** The distance from the knots of one letter to those of another; NONE if one has none. */
    private int letterDistance(int a, int b) {
        if (alphabet.rows[a] == 0 || alphabet.rows[b] == 0) {
            return NONE;
        }
        return costs.fromRowToRow(alphabet.kinds, a * LETTER_KNOTS, alphabet.sizes[a],
                alphabet.kinds, b * LETTER_KNOTS, alphabet.sizes[b]);
    }

    private int cordDistance(int a, int b) {
        return costs.fromRowToRow(cords[a].places, 0, cords[a].size, cords[b].places, 0, cords[b].size);
    }

    private void appendNumber(int number) {
        for (int shift = 24; shift >= 0; shift -= 8) {
            if (tapeSize < TAPE_BYTES) {
                tape[tapeSize] = (number >>> shift) & 255;
                tapeSize++;
            }
        }
    }

    /** The letter with knots that a byte stands for; NONE if it stands for none. */
    private int letterOfByte(int sign) {
        int letter = sign - FIRST_LETTER;
        return isNoLetter(letter) || alphabet.rows[letter] == 0 ? NONE : letter;
    }

    /** The places that the text of the tape takes on a cord; bytes that cannot be tied take none. */
    private int placesOnTape() {
        int places = 0;
        for (int i = 0; i < tapeSize; i++) {
            int letter = letterOfByte(tape[i]);
            if (letter != NONE) {
                places += alphabet.sizes[letter];
            } else if (tape[i] == BLANK) {
                places++;
            }
        }
        return places;
    }

    private boolean isTapeText() {
        for (int i = 0; i < tapeSize; i++) {
            if (tape[i] != BLANK && letterOfByte(tape[i]) == NONE) {
                return false;
            }
        }
        return true;
    }

    private void tieByte(Cord cord, int sign) {
        int letter = letterOfByte(sign);
        if (letter == NONE) {
            cord.addGap();
            return;
        }
        alphabet.ties[letter]++;
        for (int i = 0; i < alphabet.sizes[letter]; i++) {
            knotter.tieKnot(cord, alphabet.kindAt(letter, i));
        }
    }

    /** The rows of the letters, and what can be told of them without any costs. */
    private static final class Alphabet {
        /** How many rows of 1 to 4 knots there are. */
        static final int ROWS = 340;
        private static final int LONGEST_REST = 444;
        private static final int RESTS = 84;

        final int[] rows = new int[LETTERS];
        final int[] sizes = new int[LETTERS];
        final int[] ties = new int[LETTERS];
        final int[] kinds = new int[LETTERS * LETTER_KNOTS];
        private final int[] rests = new int[RESTS];
        private final int[] isRest = new int[LONGEST_REST + 1];
        private int restCount;

        static boolean isRow(int row) {
            if (row < 1 || row > 4444) {
                return false;
            }
            for (int left = row; left > 0; left /= 10) {
                if (isNoKind(left % 10)) {
                    return false;
                }
            }
            return true;
        }

        /** The row at this place among all rows, ordered by their knots, then as numbers; the first has rank 1. */
        static int rowOfRank(int rank) {
            int row = 0;
            int power = 1;
            for (int left = rank; left > 0; left = (left - 1) / KINDS) {
                row += power * ((left - 1) % KINDS + 1);
                power *= 10;
            }
            return row;
        }

        /**
         * What the longer of two rows has behind the shorter one, if it begins with this:
         * 0 if both are the same, NONE if it begins otherwise.
         */
        private static int restBehind(int one, int other) {
            // No digit is 0, so the row with more knots is the greater number.
            int shorter = Math.min(one, other);
            int longer = Math.max(one, other);
            int power = 1;
            for (int head = longer; head >= shorter && head > 0; head /= 10) {
                if (head == shorter) {
                    return longer - head * power;
                }
                power *= 10;
            }
            return NONE;
        }

        void put(int letter, int row) {
            rows[letter] = row;
            int size = 0;
            for (int left = row; left > 0; left /= 10) {
                size++;
            }
            sizes[letter] = size;
            int left = row;
            for (int i = size - 1; i >= 0; i--) {
                kinds[letter * LETTER_KNOTS + i] = left % 10;
                left /= 10;
            }
        }

        int kindAt(int letter, int index) {
            return kinds[letter * LETTER_KNOTS + index];
        }

        int lettersWithKnots() {
            int letters = 0;
            for (int letter = 0; letter < LETTERS; letter++) {
                if (rows[letter] != 0) {
                    letters++;
                }
            }
            return letters;
        }

        /** Whether the row, or that of a letter from this one on, is the beginning of the other or the same. */
        boolean clashes(int row, int fromLetter) {
            for (int letter = fromLetter; letter < LETTERS; letter++) {
                if (rows[letter] != 0 && restBehind(row, rows[letter]) != NONE) {
                    return true;
                }
            }
            return false;
        }

        /**
         * Whether no knots can be read as two rows of letters. Two rows that begin with different letters
         * and tell the same knots so far differ by a rest that the longer one has behind the other: each
         * letter that goes on the shorter one leaves another rest, or none, which is a second reading.
         */
        boolean hasOneReading() {
            restCount = 0;
            Arrays.fill(isRest, 0);
            for (int letter = 0; letter < LETTERS; letter++) {
                if (rows[letter] != 0 && meetsSameRow(rows[letter], letter + 1)) {
                    return false;
                }
            }
            for (int i = 0; i < restCount && i < RESTS; i++) {
                if (meetsSameRow(rests[i], 0)) {
                    return false;
                }
            }
            return true;
        }

        /** Whether a letter from this one on has the same row; until then the rests with the others are noted. */
        private boolean meetsSameRow(int row, int fromLetter) {
            for (int letter = fromLetter; letter < LETTERS; letter++) {
                if (rows[letter] != 0) {
                    int rest = restBehind(row, rows[letter]);
                    if (rest == 0) {
                        return true;
                    }
                    noteRest(rest);
                }
            }
            return false;
        }

        private void noteRest(int rest) {
            if (rest > 0 && rest <= LONGEST_REST && isRest[rest] == 0 && restCount < RESTS) {
                isRest[rest] = 1;
                rests[restCount] = rest;
                restCount++;
            }
        }
    }

    /** The knotter, who counts the knots of all cords and errs now and then. */
    private static final class Knotter {
        int slip;
        int skip;
        int counted;
        int slipped;
        int leftOut;

        void tieKnot(Cord cord, int kind) {
            counted++;
            if (skip != 0 && counted % skip == 0) {
                leftOut++;
                cord.leftOut++;
            } else if (slip != 0 && counted % slip == 0) {
                slipped++;
                cord.slipped++;
                cord.add(kind % KINDS + 1);
            } else {
                cord.add(kind);
            }
        }
    }

    /** A row of knots and gaps. */
    private static final class Cord {
        final int[] places = new int[CORD_PLACES];
        int size;
        int gaps;
        int slipped;
        int leftOut;

        void add(int kind) {
            if (size < CORD_PLACES) {
                places[size] = kind;
                size++;
            }
        }

        void addGap() {
            gaps++;
            add(GAP);
        }

        /** Whether a word ends ahead of this place: at a gap, or behind the last place. */
        boolean endsWord(int place) {
            return place >= size || places[place] == GAP;
        }
    }

    /** What errors cost the reader, and the distances that follow. */
    private static final class Costs {
        static final int MOST = 9;
        private static final int GAP_ERROR = 9;
        private static final int AT_FIRST_TAKEN = 3;
        private static final int AT_FIRST = 4;
        /** More than any distance: of two rows of 40 places it is at most 720. */
        private static final int NEVER = 100000;

        int missed = AT_FIRST;
        int ghost = AT_FIRST;
        private final int[] taken = new int[(KINDS + 1) * (KINDS + 1)];
        private final int[] line = new int[CORD_PLACES + 1];

        Costs() {
            Arrays.fill(taken, AT_FIRST_TAKEN);
        }

        void putTaking(int a, int b, int cost) {
            taken[a * (KINDS + 1) + b] = cost;
            taken[b * (KINDS + 1) + a] = cost;
        }

        int taking(int meant, int there) {
            if (meant == there) {
                return 0;
            }
            return meant == GAP || there == GAP ? NEVER : taken[meant * (KINDS + 1) + there];
        }

        private int missing(int kind) {
            return kind == GAP ? GAP_ERROR : missed;
        }

        private int ghostOf(int kind) {
            return kind == GAP ? GAP_ERROR : ghost;
        }

        /** The distance from the row that is meant to the one that is there; each is a part of an array. */
        int fromRowToRow(int[] meant, int meantFrom, int meantSize, int[] there, int thereFrom, int thereSize) {
            line[0] = 0;
            for (int t = 0; t < thereSize; t++) {
                line[t + 1] = line[t] + ghostOf(there[thereFrom + t]);
            }
            for (int m = 0; m < meantSize; m++) {
                int kind = meant[meantFrom + m];
                int ahead = line[0];
                line[0] += missing(kind);
                for (int t = 0; t < thereSize; t++) {
                    int other = there[thereFrom + t];
                    int asTaken = ahead + taking(kind, other);
                    int asGhost = line[t] + ghostOf(other);
                    int asMissed = line[t + 1] + missing(kind);
                    ahead = line[t + 1];
                    line[t + 1] = Math.min(asTaken, Math.min(asGhost, asMissed));
                }
            }
            return line[thereSize];
        }
    }

    /**
     * The reader of cords, word by word, each from its end to its beginning.
     *
     * A reading is weighed by one number, WEIGHT times its cost and one for each letter, so that
     * the least number is that with the least cost and of these with the fewest letters. Each
     * letter of a best reading has at least one knot that is there (without a letter that is missed
     * as a whole it costs less), so a word has no more letters than knots, and these are fewer than WEIGHT.
     */
    private static final class Reader {
        private static final int WEIGHT = 64;
        private static final int MOST_ROWS = 1000000;

        private final Alphabet alphabet;
        private final Costs costs;
        /** For each place of a word the best reading from there on: weight, first letter, the place behind this. */
        private final int[] weights = new int[CORD_PLACES + 1];
        private final int[] firstLetters = new int[CORD_PLACES + 1];
        private final int[] nextPlaces = new int[CORD_PLACES + 1];
        /** For each slot the best reading from there on: weight, the place behind the letter that is begun. */
        private final int[] begunWeights = new int[2 * LETTERS * LETTER_KNOTS];
        private final int[] begunPlaces = new int[2 * LETTERS * LETTER_KNOTS];
        private final int[] exactRows = new int[CORD_PLACES + 1];

        Reader(Alphabet alphabet, Costs costs) {
            this.alphabet = alphabet;
            this.costs = costs;
        }

        static int costIn(int weight) {
            return weight / WEIGHT;
        }

        static int lettersIn(int weight) {
            return weight % WEIGHT;
        }

        /** The weight of the best reading of a cord: of the sum too, the letters stay below WEIGHT. */
        int weightOf(Cord cord) {
            int weight = 0;
            int from = 0;
            for (int to = 0; to <= cord.size; to++) {
                if (cord.endsWord(to)) {
                    weighWord(cord, from, to);
                    weight += weights[from];
                    from = to + 1;
                }
            }
            return weight;
        }

        /** Writes the text of the best reading and returns its length. */
        int writeText(Cord cord, int[] paper) {
            int end = 0;
            int from = 0;
            for (int to = 0; to <= cord.size; to++) {
                if (cord.endsWord(to)) {
                    weighWord(cord, from, to);
                    end = writeWord(from, paper, end);
                    if (to < cord.size && end < paper.length) {
                        paper[end] = BLANK;
                        end++;
                    }
                    from = to + 1;
                }
            }
            return end;
        }

        private int writeWord(int from, int[] paper, int start) {
            int end = start;
            int place = from;
            for (int left = lettersIn(weights[from]); left > 0 && end < paper.length; left--) {
                paper[end] = FIRST_LETTER + firstLetters[place];
                end++;
                place = nextPlaces[place];
            }
            return end;
        }

        private void weighWord(Cord cord, int from, int to) {
            weights[to] = 0;
            firstLetters[to] = NONE;
            nextPlaces[to] = to;
            for (int letter = 0; letter < LETTERS; letter++) {
                weighLetterEnd(to, letter);
            }
            for (int place = to - 1; place >= from; place--) {
                weighPlace(place, cord.places[place]);
                for (int letter = 0; letter < LETTERS; letter++) {
                    weighLetter(place, letter, cord.places[place]);
                }
            }
        }

        /** The best reading from a place on: the knot there is a ghost, or the first of a letter that is not missed. */
        private void weighPlace(int place, int there) {
            weights[place] = weights[place + 1] + WEIGHT * costs.ghost;
            firstLetters[place] = firstLetters[place + 1];
            nextPlaces[place] = nextPlaces[place + 1];
            for (int letter = 0; letter < LETTERS; letter++) {
                for (int i = 0; i < alphabet.sizes[letter]; i++) {
                    int slot = slotOf(place + 1, letter, i + 1);
                    int cost = i * costs.missed + costs.taking(alphabet.kindAt(letter, i), there);
                    offerLetter(place, begunWeights[slot] + WEIGHT * cost + 1, letter, begunPlaces[slot]);
                }
            }
        }

        private void offerLetter(int place, int weight, int letter, int next) {
            boolean isBetter = weight < weights[place];
            if (weight == weights[place]) {
                isBetter = letter < firstLetters[place]
                        || (letter == firstLetters[place] && comesFirst(next, nextPlaces[place]));
            }
            if (isBetter) {
                weights[place] = weight;
                firstLetters[place] = letter;
                nextPlaces[place] = next;
            }
        }

        /** Whether the reading from one place on is ahead of the other, with as many letters, in a dictionary. */
        private boolean comesFirst(int one, int other) {
            int a = one;
            int b = other;
            for (int step = 0; step < CORD_PLACES && a != b; step++) {
                if (firstLetters[a] != firstLetters[b]) {
                    return firstLetters[a] < firstLetters[b];
                }
                a = nextPlaces[a];
                b = nextPlaces[b];
            }
            return false;
        }

        /** The slot of a letter of which so many knots (at least one) are behind, at a place. */
        private static int slotOf(int place, int letter, int behind) {
            // No more than a place and the next one are looked at together, so two sets serve in turn.
            return ((place & 1) * LETTERS + letter) * LETTER_KNOTS + behind - 1;
        }

        /** Behind a word, what is left of a letter is missed; at each place a letter without knots left is done. */
        private void weighLetterEnd(int place, int letter) {
            int weight = weights[place];
            for (int behind = alphabet.sizes[letter]; behind > 0; behind--) {
                int slot = slotOf(place, letter, behind);
                begunWeights[slot] = weight;
                begunPlaces[slot] = place;
                weight += WEIGHT * costs.missed;
            }
        }

        /** From a place on, where a letter is begun, its next knot is missed, or that one there is a ghost or taken. */
        private void weighLetter(int place, int letter, int there) {
            weighLetterEnd(place, letter);
            for (int behind = alphabet.sizes[letter] - 1; behind > 0; behind--) {
                int slot = slotOf(place, letter, behind);
                int cost = costs.taking(alphabet.kindAt(letter, behind), there);
                offerSlot(slot, slotOf(place, letter, behind + 1), costs.missed);
                offerSlot(slot, slotOf(place + 1, letter, behind), costs.ghost);
                offerSlot(slot, slotOf(place + 1, letter, behind + 1), cost);
            }
        }

        private void offerSlot(int slot, int later, int cost) {
            int weight = begunWeights[later] + WEIGHT * cost;
            if (weight < begunWeights[slot]
                    || (weight == begunWeights[slot] && comesFirst(begunPlaces[later], begunPlaces[slot]))) {
                begunWeights[slot] = weight;
                begunPlaces[slot] = begunPlaces[later];
            }
        }

        /** How many rows of letters have just the knots of a cord, MOST_ROWS if there are more. */
        int exactRowsOf(Cord cord) {
            long product = 1;
            int from = 0;
            for (int to = 0; to <= cord.size; to++) {
                if (cord.endsWord(to)) {
                    product = Math.min(product * exactRowsOfWord(cord, from, to), MOST_ROWS);
                    from = to + 1;
                }
            }
            return (int) product;
        }

        private int exactRowsOfWord(Cord cord, int from, int to) {
            exactRows[to] = 1;
            for (int place = to - 1; place >= from; place--) {
                int sum = 0;
                for (int letter = 0; letter < LETTERS; letter++) {
                    if (stands(letter, cord, place, to)) {
                        sum += exactRows[place + alphabet.sizes[letter]];
                    }
                }
                exactRows[place] = Math.min(sum, MOST_ROWS);
            }
            return exactRows[from];
        }

        /** Whether the letter has knots and these stand at a place of a word. */
        private boolean stands(int letter, Cord cord, int place, int to) {
            int size = alphabet.sizes[letter];
            if (size == 0 || place + size > to) {
                return false;
            }
            for (int i = 0; i < size; i++) {
                if (alphabet.kindAt(letter, i) != cord.places[place + i]) {
                    return false;
                }
            }
            return true;
        }
    }
}
