import java.util.Arrays;

/** Hidden colours of four candles: a code is hidden, guessed and answered with pins, and what follows is told. */
public final class HiddenCandles {
    private static final int PLACES = 4;
    private static final int FEW_COLOURS = 2;
    private static final int MANY_COLOURS = 3;
    private static final int MOST_CODES = 81;
    private static final int MOST_GUESSES = 12;
    private static final int BLACK_WORTH = 5;
    private static final int ALL_BLACK = BLACK_WORTH * PLACES;
    private static final int NONE = -1;
    private static final int COUNTS = 7;
    private static final int TELLINGS = 6;
    private static final long DIGEST_START = 1583;
    private static final long DIGEST_FACTOR = 31;

    private final Palette fewColours;
    private final Palette manyColours;
    private Palette palette;
    private int hidden;

    private int guesses;
    private final int[] guessed;
    private final int[] answers;
    private final boolean[] doubted;

    // Kept up to date by sieve(), since far more calls ask for the possible codes than change them.
    private final boolean[] open;

    // Scratch rows, made once so that no call makes any.
    private final boolean[] play;
    private final int[] heaps;

    public HiddenCandles() {
        fewColours = new Palette(FEW_COLOURS);
        manyColours = new Palette(MANY_COLOURS);
        palette = manyColours;
        hidden = NONE;
        guesses = 0;
        guessed = new int[MOST_GUESSES];
        answers = new int[MOST_GUESSES];
        doubted = new boolean[MOST_GUESSES];
        open = new boolean[MOST_CODES];
        play = new boolean[MOST_CODES];
        heaps = new int[ALL_BLACK + 1];
        sieve();
    }

    // ---- hiding and guessing

    public int setColours(int colours) throws IllegalArgumentException {
        if (colours != FEW_COLOURS && colours != MANY_COLOURS) {
            throw new IllegalArgumentException("colours are 2 or 3");
        }
        int before = palette.colours;
        palette = colours == FEW_COLOURS ? fewColours : manyColours;
        hidden = NONE;
        guesses = 0;
        sieve();
        return before;
    }

    public int hide(int code) throws IndexOutOfBoundsException {
        needCode(code);
        int before = hidden;
        hidden = code;
        return before;
    }

    public int swap(int a, int b) throws IndexOutOfBoundsException, IllegalStateException {
        needPlace(a);
        needPlace(b);
        needHidden();
        int swapped = 0;
        for (int place = 0; place < PLACES; place++) {
            int from = place == a ? b : place == b ? a : place;
            swapped = swapped * palette.colours + palette.colourOf(hidden, from);
        }
        hidden = swapped;
        return hidden;
    }

    public int guess(int code) throws IndexOutOfBoundsException, IllegalStateException {
        needCode(code);
        needHidden();
        int answer = palette.answerTo(code, hidden);
        append(code, answer);
        return answer;
    }

    public int tell(int code, int black, int white)
            throws IndexOutOfBoundsException, IllegalArgumentException, IllegalStateException {
        needCode(code);
        needPins(black, white);
        append(code, BLACK_WORTH * black + white);
        return size(open);
    }

    public boolean doubt(int guess, boolean is) throws IndexOutOfBoundsException {
        if (!hasGuess(guess)) {
            throw new IndexOutOfBoundsException("no such guess");
        }
        boolean was = doubted[guess];
        doubted[guess] = is;
        sieve();
        return was;
    }

    public int forget() throws IllegalStateException {
        int last = guesses - 1;
        if (!hasGuess(last)) {
            throw new IllegalStateException("there is no guess");
        }
        guesses = last;
        sieve();
        return guessed[last];
    }

    // ---- what there is

    public int colour(int code, int place) throws IndexOutOfBoundsException {
        needCode(code);
        needPlace(place);
        return palette.colourOf(code, place);
    }

    public int pins(int guess, int code) throws IndexOutOfBoundsException {
        needCode(guess);
        needCode(code);
        return palette.answerTo(guess, code);
    }

    public int told(int guess, int what) throws IndexOutOfBoundsException {
        if (!hasGuess(guess)) {
            throw new IndexOutOfBoundsException("no such guess");
        }
        switch (what) {
            case 0:
                return guessed[guess];
            case 1:
                return answers[guess] / BLACK_WORTH;
            case 2:
                return answers[guess] % BLACK_WORTH;
            case 3:
                return doubted[guess] ? 1 : 0;
            case 4:
                return countFitting(guess + 1);
            case 5:
                return countAnswering(guessed[guess], answers[guess]);
            default:
                throw new IndexOutOfBoundsException("what is told of a guess is 0 to 5");
        }
    }

    public int count(int what) throws IndexOutOfBoundsException {
        switch (what) {
            case 0:
                return palette.colours;
            case 1:
                return palette.codes;
            case 2:
                return guesses;
            case 3:
                return size(open);
            case 4:
                return hidden == NONE ? 0 : 1;
            case 5:
                return countAllBlack();
            case 6:
                return countDoubted();
            default:
                throw new IndexOutOfBoundsException("what is counted is 0 to 6");
        }
    }

    public boolean isPossible(int code) throws IndexOutOfBoundsException {
        needCode(code);
        return isIn(open, code);
    }

    public int possible(int place) throws IndexOutOfBoundsException {
        int code = memberAt(open, place);
        if (code == NONE) {
            throw new IndexOutOfBoundsException("no such place among the possible codes");
        }
        return code;
    }

    public int have(int place, int colour) throws IndexOutOfBoundsException {
        needPlace(place);
        if (colour < 0 || colour >= palette.colours) {
            throw new IndexOutOfBoundsException("no such colour");
        }
        return countHaving(place, colour);
    }

    public int sure(int place) throws IndexOutOfBoundsException {
        needPlace(place);
        int first = memberAt(open, 0);
        if (first == NONE) {
            return NONE;
        }
        int colour = palette.colourOf(first, place);
        return countHaving(place, colour) == size(open) ? colour : NONE;
    }

    // ---- what would be

    public int worst(int code) throws IndexOutOfBoundsException {
        needCode(code);
        return greatestHeap(code, open);
    }

    public int parts(int code) throws IndexOutOfBoundsException {
        needCode(code);
        heapUp(code, open);
        int parts = 0;
        for (int answer = 0; answer < heaps.length; answer++) {
            if (heaps[answer] > 0) {
                parts++;
            }
        }
        return parts;
    }

    public int best() {
        return leastBad(open, false);
    }

    public int takes(int code, int first) throws IndexOutOfBoundsException {
        needCode(code);
        needCode(first);
        for (int i = 0; i < play.length; i++) {
            play[i] = palette.hasCode(i);
        }
        int taken = 1;
        int next = first;
        // Each guess that is not the code rules itself out, so no play is longer than there are codes and the first.
        while (next != code && taken <= MOST_CODES) {
            keepAnswering(play, next, palette.answerTo(next, code));
            next = leastBad(play, true);
            taken++;
        }
        return taken;
    }

    public double mean() {
        if (guesses == 0) {
            return 0;
        }
        int black = 0;
        for (int i = 0; i < guesses && i < answers.length; i++) {
            black += answers[i] / BLACK_WORTH;
        }
        return (double) black / (double) guesses;
    }

    public long digest() {
        long d = DIGEST_START;
        for (int what = 0; what < COUNTS; what++) {
            d = mix(d, count(what));
        }
        d = mix(d, hidden);
        for (int i = 0; i < guesses; i++) {
            for (int what = 0; what < TELLINGS; what++) {
                d = mix(d, told(i, what));
            }
        }
        for (int place = 0; place < PLACES; place++) {
            d = mix(d, sure(place));
            for (int colour = 0; colour < palette.colours; colour++) {
                d = mix(d, have(place, colour));
            }
        }
        for (int code = 0; code < open.length; code++) {
            if (open[code]) {
                d = mix(d, code);
            }
        }
        return d;
    }

    private static long mix(long d, int x) {
        return d * DIGEST_FACTOR + x;
    }

    // ---- what a call needs

    private void needCode(int code) {
        if (!palette.hasCode(code)) {
            throw new IndexOutOfBoundsException("no such code");
        }
    }

    private static void needPlace(int place) {
        if (place < 0 || place >= PLACES) {
            throw new IndexOutOfBoundsException("places are 0 to 3");
        }
    }

    private void needHidden() {
        if (hidden == NONE) {
            throw new IllegalStateException("no code is hidden");
        }
    }

    private static void needPins(int black, int white) {
        // Without adding the two, which could wrap around.
        if (black < 0 || white < 0 || white > PLACES - black) {
            throw new IllegalArgumentException("pins are 0 to 4 together");
        }
        if (black == PLACES - 1 && white == 1) {
            throw new IllegalArgumentException("three black pins leave no white one");
        }
    }

    private boolean hasGuess(int guess) {
        return guess >= 0 && guess < guesses && guess < MOST_GUESSES;
    }

    // ---- the guesses

    private void append(int code, int answer) {
        int next = guesses;
        if (next < 0 || next >= MOST_GUESSES) {
            throw new IllegalStateException("there are 12 guesses");
        }
        guessed[next] = code;
        answers[next] = answer;
        doubted[next] = false;
        guesses = next + 1;
        sieve();
    }

    private void sieve() {
        for (int code = 0; code < open.length; code++) {
            open[code] = palette.hasCode(code) && fits(code, guesses);
        }
    }

    private boolean fits(int code, int firstGuesses) {
        for (int i = 0; i < firstGuesses && i < MOST_GUESSES; i++) {
            if (!doubted[i] && palette.answerTo(guessed[i], code) != answers[i]) {
                return false;
            }
        }
        return true;
    }

    private int countFitting(int firstGuesses) {
        int count = 0;
        for (int code = 0; code < palette.codes; code++) {
            if (fits(code, firstGuesses)) {
                count++;
            }
        }
        return count;
    }

    private int countAnswering(int guess, int answer) {
        int count = 0;
        for (int code = 0; code < palette.codes; code++) {
            if (palette.answerTo(guess, code) == answer) {
                count++;
            }
        }
        return count;
    }

    private int countAllBlack() {
        int count = 0;
        for (int i = 0; i < guesses && i < answers.length; i++) {
            if (answers[i] == ALL_BLACK) {
                count++;
            }
        }
        return count;
    }

    private int countDoubted() {
        int count = 0;
        for (int i = 0; i < guesses && i < doubted.length; i++) {
            if (doubted[i]) {
                count++;
            }
        }
        return count;
    }

    // ---- sets of codes: a flag for each

    private static boolean isIn(boolean[] set, int code) {
        return code >= 0 && code < set.length && set[code];
    }

    private static int size(boolean[] set) {
        int size = 0;
        for (int code = 0; code < set.length; code++) {
            if (set[code]) {
                size++;
            }
        }
        return size;
    }

    private static int memberAt(boolean[] set, int place) {
        int passed = 0;
        for (int code = 0; code < set.length; code++) {
            if (set[code]) {
                if (passed == place) {
                    return code;
                }
                passed++;
            }
        }
        return NONE;
    }

    private int countHaving(int place, int colour) {
        int count = 0;
        for (int code = 0; code < open.length; code++) {
            if (open[code] && palette.colourOf(code, place) == colour) {
                count++;
            }
        }
        return count;
    }

    private void keepAnswering(boolean[] set, int guess, int answer) {
        for (int code = 0; code < set.length; code++) {
            set[code] = set[code] && palette.answerTo(guess, code) == answer;
        }
    }

    // ---- the worth of a guess

    private void heapUp(int guess, boolean[] set) {
        Arrays.fill(heaps, 0);
        for (int code = 0; code < set.length; code++) {
            if (set[code]) {
                int answer = palette.answerTo(guess, code);
                if (answer >= 0 && answer < heaps.length) {
                    heaps[answer]++;
                }
            }
        }
    }

    private int greatestHeap(int guess, boolean[] set) {
        heapUp(guess, set);
        int greatest = 0;
        for (int answer = 0; answer < heaps.length; answer++) {
            greatest = Math.max(greatest, heaps[answer]);
        }
        return greatest;
    }

    /** The smallest of the codes with the fewest of the set left at the worst, one of the set ahead of others. */
    private int leastBad(boolean[] set, boolean onlyOfSet) {
        if (size(set) == 0) {
            return NONE;
        }
        int least = NONE;
        boolean leastIsIn = false;
        int fewest = MOST_CODES + 1;
        for (int code = 0; code < palette.codes; code++) {
            boolean isIn = isIn(set, code);
            if (isIn || !onlyOfSet) {
                int left = greatestHeap(code, set);
                if (left < fewest || left == fewest && isIn && !leastIsIn) {
                    least = code;
                    leastIsIn = isIn;
                    fewest = left;
                }
            }
        }
        return least;
    }

    /** The codes of two or three colours, and the answer to each of them for each. */
    private static final class Palette {
        private final int colours;
        private final int codes;
        private final int[][] candles;
        private final int[][] table;

        private Palette(int wanted) {
            colours = wanted == FEW_COLOURS ? FEW_COLOURS : MANY_COLOURS;
            codes = colours * colours * colours * colours;
            candles = new int[codes][PLACES];
            table = new int[codes][codes];
            lightCandles();
            fillTable(tallies());
        }

        private void lightCandles() {
            for (int code = 0; code < candles.length; code++) {
                int rest = code;
                for (int place = PLACES - 1; place >= 0; place--) {
                    candles[code][place] = rest % colours;
                    rest /= colours;
                }
            }
        }

        /** How often each code has each colour. */
        private int[][] tallies() {
            int[][] tallies = new int[codes][colours];
            for (int code = 0; code < codes; code++) {
                for (int place = 0; place < PLACES; place++) {
                    int colour = candles[code][place];
                    if (colour >= 0 && colour < colours) {
                        tallies[code][colour]++;
                    }
                }
            }
            return tallies;
        }

        private void fillTable(int[][] tallies) {
            for (int guess = 0; guess < codes; guess++) {
                // Two codes answer each other alike, so that one half of the table tells the other.
                for (int code = 0; code <= guess; code++) {
                    int black = countSame(candles[guess], candles[code]);
                    int shared = countShared(tallies[guess], tallies[code]);
                    int answer = BLACK_WORTH * black + shared - black;
                    table[guess][code] = answer;
                    table[code][guess] = answer;
                }
            }
        }

        private static int countSame(int[] some, int[] others) {
            int count = 0;
            for (int i = 0; i < some.length && i < others.length; i++) {
                if (some[i] == others[i]) {
                    count++;
                }
            }
            return count;
        }

        private static int countShared(int[] some, int[] others) {
            int count = 0;
            for (int i = 0; i < some.length && i < others.length; i++) {
                count += Math.min(some[i], others[i]);
            }
            return count;
        }

        private boolean hasCode(int code) {
            return code >= 0 && code < codes;
        }

        private int colourOf(int code, int place) {
            return hasCode(code) && place >= 0 && place < PLACES ? candles[code][place] : NONE;
        }

        private int answerTo(int guess, int code) {
            return hasCode(guess) && hasCode(code) ? table[guess][code] : NONE;
        }
    }
}
