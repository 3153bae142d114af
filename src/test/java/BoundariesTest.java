import java.io.IOException;
import java.lang.annotation.Retention;
import java.lang.annotation.RetentionPolicy;
import java.lang.reflect.InvocationTargetException;
import java.lang.reflect.Method;
import java.math.BigInteger;
import java.nio.file.Files;
import java.nio.file.Path;
import java.util.ArrayList;
import java.util.Arrays;
import java.util.Comparator;
import java.util.List;
import java.util.function.Predicate;

/**
 * Each sentence of the document that names a boundary case (too small, too large, empty, full, a wrap-around, a
 * refused call) by a test of its own. What a test holds stands above it: the promise, and the document's own words,
 * which are looked up in the document, so that they can be found there.
 */
public final class BoundariesTest {
    private static final Path DOCUMENT = Path.of("../shared/DOC.md");
    private static final Class<?> INDEX = IndexOutOfBoundsException.class;
    private static final Class<?> ARGUMENT = IllegalArgumentException.class;
    private static final Class<?> STATE = IllegalStateException.class;
    private static final int MIN = Integer.MIN_VALUE;
    private static final int MAX = Integer.MAX_VALUE;

    private static final String NAMED_FIRST =
            "If several exceptions apply, the one that is named first is thrown.";
    private static final String CHANGES_NOTHING = "A method that throws an exception changes nothing.";
    private static final String NO_SUCH_CODE = "Throws `IndexOutOfBoundsException` if there is no such code";
    private static final String NO_SUCH_GUESS = "Throws `IndexOutOfBoundsException` if there is no such guess";
    private static final String NO_PLACE = "Throws `IndexOutOfBoundsException` if place is not 0 to 3";

    private static String test = "";
    private static int wrong = 0;

    /** The promise that a test holds, and the words there (or under 'Terms') that name the boundary. */
    @Retention(RetentionPolicy.RUNTIME)
    private @interface Says {
        int promise();

        String words();
    }

    /** What is asked of an object. */
    private interface Call {
        Object on(HiddenCandles x);
    }

    private interface NumberCall {
        Object on(HiddenCandles x, int number);
    }

    private interface Numbers {
        int[] in(State state);
    }

    /** An object in which some of the document's exceptions are due, and others are not. */
    private enum State {
        NEW(3, false, 0),
        HIDING(3, true, 0),
        TOLD(3, false, 4),
        BOTH(3, true, 5),
        ELEVEN(3, true, 11),
        FULL(3, true, 12),
        FULL_WITHOUT_A_CODE(3, false, 12),
        TWO_COLOURS(2, false, 0),
        TWO_COLOURS_BOTH(2, true, 5),
        TWO_COLOURS_FULL(2, true, 12);

        private final int colours;
        private final boolean hides;
        private final int guesses;

        State(int colours, boolean hides, int guesses) {
            this.colours = colours;
            this.hides = hides;
            this.guesses = guesses;
        }

        private HiddenCandles make() {
            HiddenCandles x = new HiddenCandles();
            if (colours != 3) {
                x.setColours(colours);
            }
            if (hides) {
                x.hide(6);
            }
            for (int i = 0; i < guesses; i++) {
                if (hides && i % 2 == 0) {
                    x.guess(i + 1);
                } else {
                    x.tell(i + 1, i % 3, 1);
                }
                x.doubt(i, i % 3 != 0);
            }
            return x;
        }

        private boolean isFull() {
            return guesses == 12;
        }

        private boolean takesGuesses() {
            return hides && !isFull();
        }

        private boolean isAny() {
            return true;
        }

        private int codes() {
            return colours == 3 ? 81 : 16;
        }

        private int[] noCodes() {
            return new int[] {MIN, -codes(), -1, codes(), codes() + 1, 256, 1 << 16, MAX};
        }

        private int[] noGuesses() {
            return new int[] {MIN, -12, -1, guesses, guesses + 1, 12, 256, 1 << 16, MAX};
        }

        private int[] noColours() {
            return new int[] {MIN, -1, colours, colours + 1, 256, 1 << 16, MAX};
        }
    }

    public static void main(String[] args) throws IOException, IllegalAccessException {
        List<Method> tests = new ArrayList<>();
        for (Method method : BoundariesTest.class.getDeclaredMethods()) {
            if (method.getAnnotation(Says.class) != null) {
                tests.add(method);
            }
        }
        tests.sort(Comparator.comparing(Method::getName));
        for (Method method : tests) {
            run(method);
        }
        if (Files.exists(DOCUMENT)) {
            compareWithDocument(tests, Files.readAllLines(DOCUMENT));
        } else {
            System.out.println("no document at " + DOCUMENT + ": the words of the tests are not looked up");
        }
        System.out.println(tests.size() + " boundaries, " + wrong + " wrong answers");
        if (wrong > 0) {
            System.exit(1);
        }
    }

    private static void run(Method method) throws IllegalAccessException {
        Says says = method.getAnnotation(Says.class);
        test = method.getName() + " (" + says.words() + ")";
        due("the name's promise", method.getName().startsWith(String.format("promise%02d", says.promise())), true);
        try {
            method.invoke(null);
        } catch (InvocationTargetException e) {
            due("the test ends", e.getCause(), "without an exception");
        }
    }

    /** Each test's words stand under its promise or under 'Terms', and each sentence of a refusal has a test. */
    private static void compareWithDocument(List<Method> tests, List<String> document) {
        test = "the document";
        for (Method method : tests) {
            Says says = method.getAnnotation(Says.class);
            boolean found = false;
            for (String heading : List.of("## Promise " + says.promise() + ":", "## Terms", "## What it is")) {
                found |= String.join("\n", section(document, heading)).contains(says.words());
            }
            due("has for " + method.getName() + ": " + says.words(), found, true);
        }
        for (int promise = 1; promise <= 22; promise++) {
            for (String line : section(document, "## Promise " + promise + ":")) {
                if (line.startsWith("Throws ")) {
                    due("promise " + promise + ", tested: " + line, isQuoted(tests, promise, line), true);
                }
            }
        }
    }

    private static List<String> section(List<String> document, String heading) {
        List<String> section = new ArrayList<>();
        boolean inside = false;
        for (String line : document) {
            if (line.startsWith("## ")) {
                inside = line.startsWith(heading);
            }
            if (inside) {
                section.add(line);
            }
        }
        return section;
    }

    private static boolean isQuoted(List<Method> tests, int promise, String line) {
        for (Method method : tests) {
            Says says = method.getAnnotation(Says.class);
            if (says.promise() == promise && says.words().equals(line)) {
                return true;
            }
        }
        return false;
    }

    // ---- what is due

    private static void due(String what, Object got, Object want) {
        if (!want.equals(got)) {
            wrong++;
            if (wrong <= 60) {
                System.out.println(test + ": " + what + ": answered " + got + ", due is " + want);
            }
        }
    }

    private static Object answer(HiddenCandles x, Call call) {
        try {
            return call.on(x);
        } catch (RuntimeException e) {
            // The very class: one below it would be the machine's.
            return e.getClass();
        }
    }

    /** The call throws just this, and changes nothing: not what is told at once, and not what comes later. */
    private static void refused(State state, Class<?> exception, String what, Call call) {
        HiddenCandles refusing = state.make();
        HiddenCandles spared = state.make();
        due(state + ": " + what, answer(refusing, call), exception);
        due(state + ": what is there behind " + what, whatIsThere(refusing), whatIsThere(spared));
        due(state + ": what comes behind " + what, whatComes(refusing), whatComes(spared));
    }

    private static void refused(Predicate<State> where, Class<?> exception, String what, Call call) {
        for (State state : State.values()) {
            if (where.test(state)) {
                refused(state, exception, what, call);
            }
        }
    }

    private static void refused(
            Predicate<State> where, Class<?> exception, Numbers numbers, String what, NumberCall call) {
        for (State state : State.values()) {
            if (where.test(state)) {
                for (int number : numbers.in(state)) {
                    refused(state, exception, what + " of " + number, x -> call.on(x, number));
                }
            }
        }
    }

    private static int[] noPlaces(State state) {
        return new int[] {MIN, -4, -1, 4, 5, 256, 1 << 16, MAX};
    }

    private static String whatIsThere(HiddenCandles x) {
        return x.digest() + " " + x.mean();
    }

    /** A row beyond the guesses, say, would show only when there are more of them. */
    private static String whatComes(HiddenCandles x) {
        StringBuilder answers = new StringBuilder();
        answers.append(answer(x, y -> y.swap(0, 3))).append(' ').append(answer(x, y -> y.guess(7)));
        while (x.count(2) < 12) {
            answers.append(' ').append(x.tell(3, 2, 0));
        }
        answers.append(' ').append(whatIsThere(x));
        while (x.count(2) > 0) {
            answers.append(' ').append(x.forget()).append(' ').append(x.digest());
        }
        answers.append(' ').append(x.setColours(3)).append(' ').append(x.digest());
        return answers.toString();
    }

    private static List<Integer> possibles(HiddenCandles x) {
        List<Integer> possibles = new ArrayList<>();
        for (int place = 0; place < x.count(3); place++) {
            possibles.add(x.possible(place));
        }
        return possibles;
    }

    private static List<Integer> upTo(int bound) {
        List<Integer> numbers = new ArrayList<>();
        for (int number = 0; number < bound; number++) {
            numbers.add(number);
        }
        return numbers;
    }

    private static HiddenCandles ofTwo() {
        return State.TWO_COLOURS.make();
    }

    /** Two guesses that can't both be answered so. */
    private static HiddenCandles withNonePossible() {
        HiddenCandles x = new HiddenCandles();
        x.tell(0, 4, 0);
        x.tell(80, 4, 0);
        return x;
    }

    private static HiddenCandles withOnly(int code) {
        HiddenCandles x = new HiddenCandles();
        x.tell(code, 4, 0);
        return x;
    }

    // ---- promise 1: a new object

    @Says(promise = 1, words = "Creates candles of three colours, without a hidden code and guesses.")
    private static void promise01ANewObjectHasThreeColours() {
        HiddenCandles x = new HiddenCandles();
        due("count(0)", x.count(0), 3);
        due("count(1)", x.count(1), 81);
    }

    @Says(promise = 1, words = "without a hidden code")
    private static void promise01ANewObjectHidesNoCode() {
        HiddenCandles x = new HiddenCandles();
        due("count(4)", x.count(4), 0);
        due("guess(0)", answer(x, y -> y.guess(0)), STATE);
        due("hide(0)", x.hide(0), -1);
    }

    @Says(promise = 1, words = "without a hidden code and guesses")
    private static void promise01ANewObjectHasNoGuesses() {
        HiddenCandles x = new HiddenCandles();
        due("count(2)", x.count(2), 0);
        due("count(5)", x.count(5), 0);
        due("count(6)", x.count(6), 0);
        due("possible codes", possibles(x), upTo(81));
        due("told(0, 0)", answer(x, y -> y.told(0, 0)), INDEX);
        due("forget()", answer(x, HiddenCandles::forget), STATE);
    }

    @Says(promise = 1, words = "Creates candles")
    private static void promise01EachObjectIsNewWhateverOthersHave() {
        HiddenCandles x = new HiddenCandles();
        String before = whatIsThere(x);
        HiddenCandles full = State.TWO_COLOURS_FULL.make();
        String fullBefore = whatIsThere(full);
        due("an object made ahead of another one", whatIsThere(x), before);
        due("an object made behind it", whatIsThere(new HiddenCandles()), before);
        due("the one between them", whatIsThere(full), fullBefore);
    }

    @Says(promise = 1, words = "An object is used for at most 512 calls after it has been made")
    private static void promise01TheLastOf512CallsIsAnswered() {
        HiddenCandles x = new HiddenCandles();
        // As many guesses as 512 calls can make: behind each twelve the colours are taken again.
        for (int call = 1; call <= 511; call++) {
            if (call % 13 == 0) {
                due("call " + call + ", setColours(3)", x.setColours(3), 3);
            } else {
                due("call " + call + ", tell(80, 4, 0)", x.tell(80, 4, 0), 1);
            }
        }
        HiddenCandles y = new HiddenCandles();
        for (int guess = 0; guess < 511 % 13; guess++) {
            y.tell(80, 4, 0);
        }
        due("call 512, digest()", x.digest(), y.digest());
    }

    // ---- promise 2: setColours

    @Says(promise = 2, words = "Takes other colours (or as many): no code is hidden then, and there are no guesses.")
    private static void promise02OtherColoursLeaveNoCodeAndNoGuesses() {
        for (State state : State.values()) {
            int others = 5 - state.colours;
            HiddenCandles x = state.make();
            x.setColours(others);
            HiddenCandles fresh = new HiddenCandles();
            fresh.setColours(others);
            due(state + ": what is there", whatIsThere(x), whatIsThere(fresh));
            due(state + ": what comes", whatComes(x), whatComes(fresh));
        }
    }

    @Says(promise = 2, words = "(or as many)")
    private static void promise02AsManyColoursLeaveNoCodeAndNoGuesses() {
        for (State state : State.values()) {
            HiddenCandles x = state.make();
            due(state + ": setColours", x.setColours(state.colours), state.colours);
            HiddenCandles fresh = new HiddenCandles();
            fresh.setColours(state.colours);
            due(state + ": count(2)", x.count(2), 0);
            due(state + ": count(4)", x.count(4), 0);
            due(state + ": what is there", whatIsThere(x), whatIsThere(fresh));
            due(state + ": what comes", whatComes(x), whatComes(fresh));
        }
    }

    @Says(promise = 2, words = "and there are no guesses")
    private static void promise02BehindTwelveGuessesThereIsRoomForTwelve() {
        HiddenCandles x = State.FULL.make();
        x.setColours(3);
        for (int i = 0; i < 12; i++) {
            x.tell(i, 4, 0);
            due("told(" + i + ", 3), doubted before", x.told(i, 3), 0);
        }
        due("count(2)", x.count(2), 12);
        due("a thirteenth", answer(x, y -> y.tell(12, 4, 0)), STATE);
    }

    @Says(promise = 2, words = "Returns how many there were.")
    private static void promise02TheFewestAndTheMostColoursAreTaken() {
        HiddenCandles x = new HiddenCandles();
        due("setColours(2)", x.setColours(2), 3);
        due("count(1) of two", x.count(1), 16);
        due("setColours(2) again", x.setColours(2), 2);
        due("setColours(3)", x.setColours(3), 2);
        due("count(1) of three", x.count(1), 81);
        due("setColours(3) again", x.setColours(3), 3);
    }

    @Says(promise = 2, words = "Throws `IllegalArgumentException` if colours is not 2 or 3")
    private static void promise02RefusesTooFewColours() {
        Numbers tooFew = state -> new int[] {1, 0, -1, -2, -3, MIN, MIN + 2};
        refused(State::isAny, ARGUMENT, tooFew, "setColours", HiddenCandles::setColours);
    }

    @Says(promise = 2, words = "Throws `IllegalArgumentException` if colours is not 2 or 3")
    private static void promise02RefusesTooManyColours() {
        Numbers tooMany = state -> new int[] {4, 5, 256 + 2, 256 + 3, (1 << 16) + 3, MAX};
        refused(State::isAny, ARGUMENT, tooMany, "setColours", HiddenCandles::setColours);
    }

    // ---- promise 3: hide

    @Says(promise = 3, words = "Returns the one before; -1 if none was hidden.")
    private static void promise03ReturnsNoneIfNoneWasHidden() {
        HiddenCandles x = new HiddenCandles();
        due("the first hide(0)", x.hide(0), -1);
        x.setColours(3);
        due("hide(80) behind setColours", x.hide(80), -1);
        HiddenCandles told = State.FULL_WITHOUT_A_CODE.make();
        due("hide(0) behind twelve guesses", told.hide(0), -1);
    }

    @Says(promise = 3, words = "Hides a code, in the place of the one before")
    private static void promise03TakesTheSmallestAndTheGreatestCode() {
        for (State state : State.values()) {
            HiddenCandles x = state.make();
            x.hide(0);
            due(state + ": hide of the greatest", x.hide(state.codes() - 1), 0);
            due(state + ": hide(0)", x.hide(0), state.codes() - 1);
            due(state + ": hide(0) again", x.hide(0), 0);
            due(state + ": count(4)", x.count(4), 1);
        }
    }

    @Says(promise = 3, words = "guesses stay as they are")
    private static void promise03GuessesStay() {
        for (State state : State.values()) {
            HiddenCandles x = state.make();
            List<Integer> before = guesses(x);
            x.hide(15);
            due(state + ": the guesses", guesses(x), before);
        }
    }

    private static List<Integer> guesses(HiddenCandles x) {
        List<Integer> guesses = possibles(x);
        for (int guess = 0; guess < x.count(2); guess++) {
            for (int what = 0; what <= 5; what++) {
                guesses.add(x.told(guess, what));
            }
        }
        return guesses;
    }

    @Says(promise = 3, words = "so it may be not possible then")
    private static void promise03ACodeThatIsHiddenLaterMayBeNotPossible() {
        HiddenCandles x = new HiddenCandles();
        x.hide(80);
        x.guess(80);
        x.hide(0);
        due("isPossible(0)", x.isPossible(0), false);
        due("isPossible(80)", x.isPossible(80), true);
        due("guess(0)", x.guess(0), 20);
        due("count(3)", x.count(3), 0);
    }

    @Says(promise = 3, words = NO_SUCH_CODE)
    private static void promise03RefusesWhatIsNoCode() {
        refused(State::isAny, INDEX, State::noCodes, "hide", HiddenCandles::hide);
    }

    // ---- promise 4: swap

    @Says(promise = 4, words = "Two candles of the hidden code change their places")
    private static void promise04TheFirstAndTheLastPlaceChange() {
        HiddenCandles x = new HiddenCandles();
        x.hide(1);
        due("swap(0, 3)", x.swap(0, 3), 27);
        due("swap(3, 0)", x.swap(3, 0), 1);
        HiddenCandles two = ofTwo();
        two.hide(14);
        due("swap(3, 0) of two", two.swap(3, 0), 7);
        due("swap(0, 3) of two", two.swap(0, 3), 14);
    }

    @Says(promise = 4, words = "Two candles of the hidden code change their places")
    private static void promise04APlaceChangesWithItself() {
        HiddenCandles x = new HiddenCandles();
        x.hide(5);
        for (int place = 0; place < 4; place++) {
            due("swap(" + place + ", " + place + ")", x.swap(place, place), 5);
        }
        due("hide(0)", x.hide(0), 5);
    }

    @Says(promise = 4, words = "Returns the code that is hidden then.")
    private static void promise04TheSmallestAndTheGreatestCodeStay() {
        HiddenCandles x = new HiddenCandles();
        x.hide(0);
        due("swap(0, 3) of 0", x.swap(0, 3), 0);
        due("hide(80)", x.hide(80), 0);
        due("swap(0, 3) of 80", x.swap(0, 3), 80);
        due("hide(0)", x.hide(0), 80);
    }

    @Says(promise = 4, words = "guesses stay as they are")
    private static void promise04GuessesStay() {
        for (State state : State.values()) {
            if (state.hides) {
                HiddenCandles x = state.make();
                List<Integer> before = guesses(x);
                due(state + ": swap(0, 2)", x.swap(0, 2) == 6, false);
                due(state + ": the guesses", guesses(x), before);
            }
        }
    }

    @Says(promise = 4, words = "Throws `IndexOutOfBoundsException` if a or b is not 0 to 3")
    private static void promise04RefusesAFirstPlaceThatIsNone() {
        refused(state -> state.hides, INDEX, BoundariesTest::noPlaces, "swap(.., 0)", (x, a) -> x.swap(a, 0));
        refused(state -> state.hides, INDEX, BoundariesTest::noPlaces, "swap(.., 3)", (x, a) -> x.swap(a, 3));
    }

    @Says(promise = 4, words = "Throws `IndexOutOfBoundsException` if a or b is not 0 to 3")
    private static void promise04RefusesASecondPlaceThatIsNone() {
        refused(state -> state.hides, INDEX, BoundariesTest::noPlaces, "swap(0, ..)", (x, b) -> x.swap(0, b));
        refused(state -> state.hides, INDEX, BoundariesTest::noPlaces, "swap(3, ..)", (x, b) -> x.swap(3, b));
    }

    @Says(promise = 4, words = "Throws `IndexOutOfBoundsException` if a or b is not 0 to 3")
    private static void promise04RefusesTwoPlacesThatAreNone() {
        refused(state -> state.hides, INDEX, BoundariesTest::noPlaces, "swap of both", (x, a) -> x.swap(a, a));
    }

    @Says(promise = 4, words = "Throws `IllegalStateException` if no code is hidden")
    private static void promise04RefusesIfNoCodeIsHidden() {
        refused(state -> !state.hides, STATE, "swap(0, 3)", x -> x.swap(0, 3));
        refused(state -> !state.hides, STATE, "swap(2, 2)", x -> x.swap(2, 2));
        HiddenCandles x = State.BOTH.make();
        x.setColours(3);
        due("swap(0, 3) behind setColours", answer(x, y -> y.swap(0, 3)), STATE);
    }

    @Says(promise = 4, words = NAMED_FIRST)
    private static void promise04NamesThePlacesAheadOfTheHiddenCode() {
        refused(state -> !state.hides, INDEX, BoundariesTest::noPlaces, "swap(.., 0)", (x, a) -> x.swap(a, 0));
        refused(state -> !state.hides, INDEX, BoundariesTest::noPlaces, "swap(0, ..)", (x, b) -> x.swap(0, b));
    }

    // ---- promise 5: guess

    @Says(promise = 5, words = "Returns its pins.")
    private static void promise05ReturnsTheFewestAndTheMostPins() {
        HiddenCandles x = new HiddenCandles();
        x.hide(0);
        due("guess(80) of 0000", x.guess(80), 0);
        due("guess(0) of 0000", x.guess(0), 20);
        x.hide(80);
        due("guess(80) of 2222", x.guess(80), 20);
        due("guess(0) of 2222", x.guess(0), 0);
        x.hide(36);
        due("guess(4) of 1100", x.guess(4), 4);
        HiddenCandles two = ofTwo();
        two.hide(15);
        due("guess(15) of two", two.guess(15), 20);
        due("guess(0) of two", two.guess(0), 0);
    }

    @Says(promise = 5, words = "Guesses are answered by it as it is when they are made")
    private static void promise05AnswersByTheCodeOfThatTime() {
        HiddenCandles x = new HiddenCandles();
        x.hide(1);
        due("guess(1)", x.guess(1), 20);
        x.swap(2, 3);
        due("guess(1) behind swap", x.guess(1), 12);
        x.hide(80);
        due("guess(1) behind hide", x.guess(1), 0);
        due("told(0, 1)", x.told(0, 1), 4);
        due("told(1, 1)", x.told(1, 1), 2);
        due("told(1, 2)", x.told(1, 2), 2);
    }

    @Says(promise = 5, words = "At most 12 stand in a row, numbered from 0")
    private static void promise05TakesTheTwelfth() {
        HiddenCandles x = State.ELEVEN.make();
        due("guess(0)", x.guess(0), x.pins(0, 6));
        due("count(2)", x.count(2), 12);
        due("told(11, 0)", x.told(11, 0), 0);
        due("told(0, 0)", x.told(0, 0), 1);
        due("told(12, 0)", answer(x, y -> y.told(12, 0)), INDEX);
    }

    @Says(promise = 5, words = "counts (at first)")
    private static void promise05AGuessInTheRoomOfADoubtedOneCounts() {
        HiddenCandles x = State.FULL.make();
        due("doubt(11, true)", x.doubt(11, true), true);
        x.forget();
        x.guess(6);
        due("told(11, 3)", x.told(11, 3), 0);
        due("doubt(11, true)", x.doubt(11, true), false);
    }

    @Says(promise = 5, words = NO_SUCH_CODE)
    private static void promise05RefusesWhatIsNoCode() {
        refused(State::takesGuesses, INDEX, State::noCodes, "guess", HiddenCandles::guess);
    }

    @Says(promise = 5, words = "Throws `IllegalStateException` if no code is hidden, or there are 12 guesses")
    private static void promise05RefusesIfNoCodeIsHidden() {
        refused(state -> !state.hides && !state.isFull(), STATE, "guess(0)", x -> x.guess(0));
        HiddenCandles x = State.BOTH.make();
        x.setColours(2);
        due("guess(0) behind setColours", answer(x, y -> y.guess(0)), STATE);
    }

    @Says(promise = 5, words = "Throws `IllegalStateException` if no code is hidden, or there are 12 guesses")
    private static void promise05RefusesIfThereAreTwelveGuesses() {
        refused(state -> state.hides && state.isFull(), STATE, "guess(0)", x -> x.guess(0));
        HiddenCandles x = State.FULL.make();
        for (int guess = 0; guess < 12; guess++) {
            x.doubt(guess, true);
        }
        due("guess(0) with all doubted", answer(x, y -> y.guess(0)), STATE);
    }

    @Says(promise = 5, words = "Throws `IllegalStateException` if no code is hidden, or there are 12 guesses")
    private static void promise05RefusesIfBothAreSo() {
        refused(state -> !state.hides && state.isFull(), STATE, "guess(0)", x -> x.guess(0));
    }

    @Says(promise = 5, words = NAMED_FIRST)
    private static void promise05NamesTheCodeAheadOfTheHiddenOne() {
        refused(state -> !state.hides, INDEX, State::noCodes, "guess", HiddenCandles::guess);
    }

    @Says(promise = 5, words = NAMED_FIRST)
    private static void promise05NamesTheCodeAheadOfTheTwelve() {
        refused(State::isFull, INDEX, State::noCodes, "guess", HiddenCandles::guess);
    }

    // ---- promise 6: tell

    @Says(promise = 6, words = "(whether this can be or not, and whatever is hidden)")
    private static void promise06TakesAnAnswerThatCanNotBe() {
        HiddenCandles x = new HiddenCandles();
        due("tell(0, 0, 1)", x.tell(0, 0, 1), 0);
        due("told(0, 2)", x.told(0, 2), 1);
        due("tell(0, 4, 0) behind it", x.tell(0, 4, 0), 0);
    }

    @Says(promise = 6, words = "and whatever is hidden")
    private static void promise06TakesAnAnswerThatTheHiddenCodeWouldNotGive() {
        HiddenCandles x = new HiddenCandles();
        x.hide(0);
        due("tell(80, 4, 0)", x.tell(80, 4, 0), 1);
        due("told(0, 1)", x.told(0, 1), 4);
        due("possible(0)", x.possible(0), 80);
        due("hide(1)", x.hide(1), 0);
    }

    @Says(promise = 6, words = "and whatever is hidden")
    private static void promise06TakesAnAnswerWithoutAHiddenCode() {
        HiddenCandles x = new HiddenCandles();
        due("tell(80, 4, 0)", x.tell(80, 4, 0), 1);
        due("count(4)", x.count(4), 0);
    }

    @Says(promise = 6, words = "Returns how many codes are possible then.")
    private static void promise06TheSmallestAndTheGreatestCodeAreTold() {
        due("tell(0, 0, 0)", new HiddenCandles().tell(0, 0, 0), 16);
        due("tell(80, 3, 0)", new HiddenCandles().tell(80, 3, 0), 8);
        due("tell(0, 0, 0) of two", ofTwo().tell(0, 0, 0), 1);
        due("tell(15, 3, 0) of two", ofTwo().tell(15, 3, 0), 4);
    }

    @Says(promise = 6, words = "At most 12 stand in a row")
    private static void promise06TakesTheTwelfth() {
        HiddenCandles x = State.ELEVEN.make();
        x.tell(0, 4, 0);
        due("count(2)", x.count(2), 12);
        due("told(11, 0)", x.told(11, 0), 0);
        due("told(11, 1)", x.told(11, 1), 4);
    }

    @Says(promise = 6, words = "counts (at first)")
    private static void promise06AGuessInTheRoomOfADoubtedOneCounts() {
        HiddenCandles x = new HiddenCandles();
        x.tell(0, 4, 0);
        x.doubt(0, true);
        x.forget();
        due("tell(1, 4, 0)", x.tell(1, 4, 0), 1);
        due("told(0, 3)", x.told(0, 3), 0);
    }

    @Says(promise = 6, words = NO_SUCH_CODE)
    private static void promise06RefusesWhatIsNoCode() {
        refused(state -> !state.isFull(), INDEX, State::noCodes, "tell(.., 4, 0)", (x, code) -> x.tell(code, 4, 0));
    }

    private static final String NO_PINS = "Throws `IllegalArgumentException` if black or white is less than 0,"
            + " or both are more than 4 together, or black is 3 and white is 1";

    private static void refusedPins(Predicate<State> where, Class<?> exception, int code, int[][] pins) {
        for (int[] pair : pins) {
            String what = "tell(" + code + ", " + pair[0] + ", " + pair[1] + ")";
            refused(where, exception, what, x -> x.tell(code, pair[0], pair[1]));
        }
    }

    @Says(promise = 6, words = NO_PINS)
    private static void promise06TakesAllPinsThatAreNotRefused() {
        for (int black = 0; black <= 4; black++) {
            for (int white = 0; white <= 4 - black; white++) {
                if (black != 3 || white != 1) {
                    HiddenCandles x = new HiddenCandles();
                    int pins = black;
                    int whites = white;
                    Object left = answer(x, y -> y.tell(5, pins, whites));
                    due("tell(5, " + black + ", " + white + ")", left, x.count(3));
                    due("count(2) then", x.count(2), 1);
                    due("told(0, 1)", answer(x, y -> y.told(0, 1)), black);
                    due("told(0, 2)", answer(x, y -> y.told(0, 2)), white);
                }
            }
        }
    }

    @Says(promise = 6, words = NO_PINS)
    private static void promise06RefusesTooFewBlackPins() {
        int[][] pins = {{-1, 0}, {-1, 1}, {-1, 4}, {-1, 5}, {-5, 4}, {MIN, 0}, {MIN, 4}, {MIN, MAX}};
        refusedPins(state -> !state.isFull(), ARGUMENT, 0, pins);
    }

    @Says(promise = 6, words = NO_PINS)
    private static void promise06RefusesTooFewWhitePins() {
        int[][] pins = {{0, -1}, {1, -1}, {3, -1}, {4, -1}, {5, -1}, {0, MIN}, {4, MIN}, {MAX, MIN}};
        refusedPins(state -> !state.isFull(), ARGUMENT, 0, pins);
    }

    @Says(promise = 6, words = NO_PINS)
    private static void promise06RefusesTooFewOfBoth() {
        refusedPins(state -> !state.isFull(), ARGUMENT, 0, new int[][] {{-1, -1}, {MIN, MIN}, {MIN, -1}, {-1, MIN}});
    }

    @Says(promise = 6, words = NO_PINS)
    private static void promise06RefusesMoreThanFourTogether() {
        int[][] pins = {{0, 5}, {1, 4}, {2, 3}, {3, 2}, {4, 1}, {5, 0}, {0, 20}, {4, 4}, {MAX, 0}, {0, MAX}};
        refusedPins(state -> !state.isFull(), ARGUMENT, 0, pins);
    }

    @Says(promise = 6, words = NO_PINS)
    private static void promise06RefusesMoreThanFourTogetherWhoseSumWrapsAround() {
        int[][] pins = {{MAX, 1}, {1, MAX}, {MAX, 4}, {4, MAX}, {MAX, MAX}, {1 << 30, 1 << 30}};
        refusedPins(state -> !state.isFull(), ARGUMENT, 0, pins);
    }

    @Says(promise = 6, words = NO_PINS)
    private static void promise06RefusesThreeBlackPinsAndAWhiteOne() {
        refusedPins(state -> !state.isFull(), ARGUMENT, 0, new int[][] {{3, 1}});
        refusedPins(state -> !state.isFull(), ARGUMENT, 15, new int[][] {{3, 1}});
    }

    @Says(promise = 6, words = "Throws `IllegalStateException` if there are 12 guesses")
    private static void promise06RefusesIfThereAreTwelveGuesses() {
        refusedPins(State::isFull, STATE, 0, new int[][] {{0, 0}, {4, 0}, {0, 4}, {3, 0}, {2, 2}});
        HiddenCandles x = State.FULL.make();
        for (int guess = 0; guess < 12; guess++) {
            x.doubt(guess, true);
        }
        due("tell(0, 4, 0) with all doubted", answer(x, y -> y.tell(0, 4, 0)), STATE);
    }

    @Says(promise = 6, words = NAMED_FIRST)
    private static void promise06NamesTheCodeAheadOfThePins() {
        for (int[] pins : new int[][] {{3, 1}, {-1, 0}, {0, -1}, {5, 0}, {MAX, MAX}}) {
            refused(state -> !state.isFull(), INDEX, State::noCodes, "tell(.., " + pins[0] + ", " + pins[1] + ")",
                    (x, code) -> x.tell(code, pins[0], pins[1]));
        }
    }

    @Says(promise = 6, words = NAMED_FIRST)
    private static void promise06NamesTheCodeAheadOfTheTwelve() {
        refused(State::isFull, INDEX, State::noCodes, "tell(.., 4, 0)", (x, code) -> x.tell(code, 4, 0));
        refused(State::isFull, INDEX, State::noCodes, "tell(.., 3, 1)", (x, code) -> x.tell(code, 3, 1));
    }

    @Says(promise = 6, words = NAMED_FIRST)
    private static void promise06NamesThePinsAheadOfTheTwelve() {
        int[][] pins = {{3, 1}, {-1, 0}, {0, -1}, {5, 0}, {0, 5}, {MAX, MAX}};
        refusedPins(State::isFull, ARGUMENT, 0, pins);
    }

    // ---- promise 7: doubt

    @Says(promise = 7, words = "Returns whether it was.")
    private static void promise07ReturnsWhetherItWasIfNothingChanges() {
        HiddenCandles x = withOnly(5);
        due("doubt(0, false)", x.doubt(0, false), false);
        due("count(3) then", x.count(3), 1);
        due("doubt(0, true)", x.doubt(0, true), false);
        due("doubt(0, true) again", x.doubt(0, true), true);
        due("count(3) then", x.count(3), 81);
        due("doubt(0, false) then", x.doubt(0, false), true);
        due("count(3) at last", x.count(3), 1);
    }

    @Says(promise = 7, words = "all codes without such guesses")
    private static void promise07AllCodesArePossibleWithAllGuessesDoubted() {
        for (State state : State.values()) {
            HiddenCandles x = state.make();
            for (int guess = 0; guess < state.guesses; guess++) {
                x.doubt(guess, true);
            }
            due(state + ": possible codes", possibles(x), upTo(state.codes()));
        }
    }

    @Says(promise = 7, words = "At most 12 stand in a row, numbered from 0")
    private static void promise07DoubtsTheFirstAndTheTwelfth() {
        HiddenCandles x = State.FULL_WITHOUT_A_CODE.make();
        due("doubt(0, true)", x.doubt(0, true), false);
        due("told(0, 3)", x.told(0, 3), 1);
        due("doubt(11, false)", x.doubt(11, false), true);
        due("told(11, 3)", x.told(11, 3), 0);
    }

    @Says(promise = 7, words = NO_SUCH_GUESS)
    private static void promise07RefusesWhatIsNoGuess() {
        refused(State::isAny, INDEX, State::noGuesses, "doubt(.., true)", (x, guess) -> x.doubt(guess, true));
        refused(State::isAny, INDEX, State::noGuesses, "doubt(.., false)", (x, guess) -> x.doubt(guess, false));
    }

    @Says(promise = 7, words = NO_SUCH_GUESS)
    private static void promise07RefusesAGuessThatWasTakenBack() {
        HiddenCandles x = State.FULL.make();
        x.forget();
        due("doubt(11, true)", answer(x, y -> y.doubt(11, true)), INDEX);
        x.setColours(3);
        due("doubt(0, true) behind setColours", answer(x, y -> y.doubt(0, true)), INDEX);
    }

    // ---- promise 8: forget

    @Says(promise = 8, words = "Takes the last guess back.")
    private static void promise08TakesAllTwelveBack() {
        HiddenCandles x = State.FULL.make();
        for (int guess = 11; guess >= 0; guess--) {
            due("forget()", x.forget(), guess + 1);
            due("count(2)", x.count(2), guess);
        }
        due("possible codes", possibles(x), upTo(81));
        due("count(6)", x.count(6), 0);
        due("count(4)", x.count(4), 1);
    }

    @Says(promise = 8, words = "Takes the last guess back.")
    private static void promise08BehindTwelveThereIsRoomForOne() {
        HiddenCandles x = State.FULL.make();
        x.forget();
        due("guess(6)", x.guess(6), 20);
        due("told(11, 0)", x.told(11, 0), 6);
        due("a thirteenth", answer(x, y -> y.guess(6)), STATE);
    }

    @Says(promise = 8, words = "Throws `IllegalStateException` if there is none")
    private static void promise08RefusesIfThereIsNone() {
        refused(state -> state.guesses == 0, STATE, "forget()", HiddenCandles::forget);
    }

    @Says(promise = 8, words = "Throws `IllegalStateException` if there is none")
    private static void promise08RefusesIfThereIsNoneAnyMore() {
        HiddenCandles x = withOnly(7);
        due("forget()", x.forget(), 7);
        due("forget() again", answer(x, HiddenCandles::forget), STATE);
        HiddenCandles y = State.BOTH.make();
        y.setColours(3);
        due("forget() behind setColours", answer(y, HiddenCandles::forget), STATE);
    }

    // ---- promise 9: colour

    @Says(promise = 9, words = "so codes are 0 to c * c * c * c - 1")
    private static void promise09TellsTheSmallestAndTheGreatestCode() {
        for (State state : State.values()) {
            HiddenCandles x = state.make();
            for (int place = 0; place < 4; place++) {
                due(state + ": colour(0, " + place + ")", x.colour(0, place), 0);
                due(state + ": colour of the greatest", x.colour(state.codes() - 1, place), state.colours - 1);
            }
        }
    }

    @Says(promise = 9, words = "four candles stand at the places 0 to 3")
    private static void promise09TellsTheFirstAndTheLastPlace() {
        HiddenCandles x = new HiddenCandles();
        // 1020
        due("colour(33, 0)", x.colour(33, 0), 1);
        due("colour(33, 3)", x.colour(33, 3), 0);
        due("colour(1, 3)", x.colour(1, 3), 1);
        due("colour(8, 0) of two", ofTwo().colour(8, 0), 1);
        due("colour(8, 3) of two", ofTwo().colour(8, 3), 0);
    }

    private static final String NO_CODE_OR_PLACE = NO_SUCH_CODE + ", or place is not 0 to 3";

    @Says(promise = 9, words = NO_CODE_OR_PLACE)
    private static void promise09RefusesWhatIsNoCode() {
        refused(State::isAny, INDEX, State::noCodes, "colour(.., 0)", (x, code) -> x.colour(code, 0));
        refused(State::isAny, INDEX, State::noCodes, "colour(.., 3)", (x, code) -> x.colour(code, 3));
    }

    @Says(promise = 9, words = NO_CODE_OR_PLACE)
    private static void promise09RefusesWhatIsNoPlace() {
        refused(State::isAny, INDEX, BoundariesTest::noPlaces, "colour(0, ..)", (x, place) -> x.colour(0, place));
        refused(State::isAny, INDEX, BoundariesTest::noPlaces, "colour(15, ..)", (x, place) -> x.colour(15, place));
    }

    @Says(promise = 9, words = NO_CODE_OR_PLACE)
    private static void promise09RefusesWhatIsNeither() {
        refused(State::isAny, INDEX, State::noCodes, "colour(.., 4)", (x, code) -> x.colour(code, 4));
        refused(State::isAny, INDEX, State::noCodes, "colour(.., -1)", (x, code) -> x.colour(code, -1));
    }

    // ---- promise 10: pins

    @Says(promise = 10, words = "They are told as 5 times the black ones, and the white ones, added.")
    private static void promise10TellsTheFewestAndTheMostPins() {
        HiddenCandles x = new HiddenCandles();
        due("no pins", x.pins(0, 80), 0);
        due("no pins, the other way", x.pins(80, 0), 0);
        due("four black ones of 0000", x.pins(0, 0), 20);
        due("four black ones of 2222", x.pins(80, 80), 20);
        due("four white ones", x.pins(4, 36), 4);
        due("three black ones and no white one", x.pins(0, 1), 15);
        due("two of each", x.pins(1, 3), 12);
        due("four black ones of two", ofTwo().pins(15, 15), 20);
        due("no pins of two", ofTwo().pins(0, 15), 0);
    }

    @Says(promise = 10, words = "for each colour how often that has it which has it less often")
    private static void promise10CountsTheColourThatIsLessOften() {
        HiddenCandles x = new HiddenCandles();
        // 1100 has two 1s, and 0111 three, one of them at the same place; 0 is there twice and once.
        due("pins(36, 13)", x.pins(36, 13), 7);
        due("pins(13, 36)", x.pins(13, 36), 7);
        // 0000 for 1110
        due("pins(0, 39)", x.pins(0, 39), 5);
        due("pins(39, 0)", x.pins(39, 0), 5);
    }

    @Says(promise = 10, words = NO_SUCH_CODE)
    private static void promise10RefusesAGuessThatIsNoCode() {
        refused(State::isAny, INDEX, State::noCodes, "pins(.., 0)", (x, guess) -> x.pins(guess, 0));
    }

    @Says(promise = 10, words = NO_SUCH_CODE)
    private static void promise10RefusesACodeThatIsNone() {
        refused(State::isAny, INDEX, State::noCodes, "pins(0, ..)", (x, code) -> x.pins(0, code));
    }

    @Says(promise = 10, words = NO_SUCH_CODE)
    private static void promise10RefusesTwoThatAreNone() {
        refused(State::isAny, INDEX, State::noCodes, "pins of both", (x, code) -> x.pins(code, code));
    }

    // ---- promise 11: told

    @Says(promise = 11, words = "At most 12 stand in a row, numbered from 0")
    private static void promise11TellsTheFirstAndTheTwelfth() {
        HiddenCandles x = State.FULL_WITHOUT_A_CODE.make();
        due("told(0, 0)", x.told(0, 0), 1);
        due("told(0, 1)", x.told(0, 1), 0);
        due("told(0, 2)", x.told(0, 2), 1);
        due("told(0, 3)", x.told(0, 3), 0);
        due("told(11, 0)", x.told(11, 0), 12);
        due("told(11, 1)", x.told(11, 1), 2);
        due("told(11, 2)", x.told(11, 2), 1);
        due("told(11, 3)", x.told(11, 3), 1);
        due("told(11, 4)", x.told(11, 4), x.count(3));
    }

    @Says(promise = 11, words = "4 how many codes are possible by it and the guesses ahead of it")
    private static void promise11LeavesOutTheGuessesBehindIt() {
        HiddenCandles x = new HiddenCandles();
        x.tell(0, 3, 0);
        x.tell(80, 4, 0);
        due("told(0, 4)", x.told(0, 4), 8);
        due("told(1, 4)", x.told(1, 4), 0);
        x.tell(80, 4, 0);
        due("told(0, 4) with one more", x.told(0, 4), 8);
    }

    @Says(promise = 11, words = "(those of all these that count, so not by itself, if it is doubted)")
    private static void promise11LeavesOutTheDoubtedOnes() {
        HiddenCandles x = new HiddenCandles();
        x.tell(0, 3, 0);
        x.tell(1, 4, 0);
        x.tell(80, 4, 0);
        x.doubt(2, true);
        due("told(2, 4), doubted itself", x.told(2, 4), 1);
        x.doubt(1, true);
        due("told(2, 4), one ahead of it doubted too", x.told(2, 4), 8);
        x.doubt(0, true);
        due("told(2, 4), all doubted", x.told(2, 4), 81);
        due("told(0, 4), the first doubted", x.told(0, 4), 81);
        x.doubt(2, false);
        due("told(2, 4), alone counting", x.told(2, 4), 1);
    }

    @Says(promise = 11, words = "5 how many of all codes would have its pins, by it alone, doubted or not")
    private static void promise11CountsByItAloneDoubtedOrNot() {
        HiddenCandles x = withOnly(80);
        x.tell(0, 3, 0);
        due("told(1, 5)", x.told(1, 5), 8);
        x.doubt(1, true);
        due("told(1, 5), doubted", x.told(1, 5), 8);
        x.tell(0, 0, 4);
        due("told(2, 5) of pins that can't be", x.told(2, 5), 0);
    }

    @Says(promise = 11, words = "5 how many of all codes would have its pins")
    private static void promise11CountsTheSmallestAndTheGreatestCodeToo() {
        due("told(0, 5) of 0000 alone", withOnly(0).told(0, 5), 1);
        due("told(0, 5) of 2222 alone", withOnly(80).told(0, 5), 1);
        due("told(0, 4) of 0000 alone", withOnly(0).told(0, 4), 1);
        due("told(0, 4) of 2222 alone", withOnly(80).told(0, 4), 1);
    }

    private static final String NO_GUESS_OR_WHAT = NO_SUCH_GUESS + ", or what is not 0 to 5";

    @Says(promise = 11, words = NO_GUESS_OR_WHAT)
    private static void promise11RefusesWhatIsNoGuess() {
        for (int what = 0; what <= 5; what++) {
            int asked = what;
            String call = "told(.., " + what + ")";
            refused(State::isAny, INDEX, State::noGuesses, call, (x, guess) -> x.told(guess, asked));
        }
    }

    @Says(promise = 11, words = NO_GUESS_OR_WHAT)
    private static void promise11RefusesAGuessThatWasTakenBack() {
        HiddenCandles x = withOnly(7);
        x.forget();
        due("told(0, 0)", answer(x, y -> y.told(0, 0)), INDEX);
        HiddenCandles two = State.FULL.make();
        two.setColours(2);
        due("told(0, 0) behind setColours", answer(two, y -> y.told(0, 0)), INDEX);
    }

    @Says(promise = 11, words = NO_GUESS_OR_WHAT)
    private static void promise11RefusesAnotherWhat() {
        Numbers others = state -> new int[] {MIN, -1, 6, 7, 256, 1 << 16, MAX};
        refused(state -> state.guesses > 0, INDEX, others, "told(0, ..)", (x, what) -> x.told(0, what));
        refused(State::isFull, INDEX, others, "told(11, ..)", (x, what) -> x.told(11, what));
    }

    @Says(promise = 11, words = NO_GUESS_OR_WHAT)
    private static void promise11RefusesWhatIsNeither() {
        refused(State::isAny, INDEX, State::noGuesses, "told(.., 6)", (x, guess) -> x.told(guess, 6));
        refused(State::isAny, INDEX, State::noGuesses, "told(.., -1)", (x, guess) -> x.told(guess, -1));
    }

    // ---- promise 12: count

    private static final String COUNTS = "- `what`: 0 colours, 1 all codes, 2 guesses, 3 possible codes, 4 1 if a code"
            + " is hidden, else 0, 5 guesses with four black pins, 6 guesses that are doubted";

    private static List<Integer> counts(HiddenCandles x) {
        List<Integer> counts = new ArrayList<>();
        for (int what = 0; what <= 6; what++) {
            counts.add(x.count(what));
        }
        return counts;
    }

    @Says(promise = 12, words = COUNTS)
    private static void promise12CountsWithoutGuesses() {
        due("of three colours", counts(new HiddenCandles()), List.of(3, 81, 0, 81, 0, 0, 0));
        due("of two colours", counts(ofTwo()), List.of(2, 16, 0, 16, 0, 0, 0));
        due("with a hidden code", counts(State.HIDING.make()), List.of(3, 81, 0, 81, 1, 0, 0));
    }

    @Says(promise = 12, words = COUNTS)
    private static void promise12CountsTwelveOfAKind() {
        HiddenCandles x = new HiddenCandles();
        x.hide(0);
        for (int guess = 0; guess < 12; guess++) {
            x.guess(0);
        }
        due("twelve with four black pins", counts(x), List.of(3, 81, 12, 1, 1, 12, 0));
        for (int guess = 0; guess < 12; guess++) {
            x.doubt(guess, true);
        }
        due("all doubted", counts(x), List.of(3, 81, 12, 81, 1, 12, 12));
        for (int guess = 0; guess < 12; guess++) {
            x.forget();
        }
        due("all taken back", counts(x), List.of(3, 81, 0, 81, 1, 0, 0));
    }

    @Says(promise = 12, words = "5 guesses with four black pins")
    private static void promise12LeavesOutFourWhitePinsAndThreeBlackOnes() {
        HiddenCandles x = new HiddenCandles();
        x.tell(5, 0, 4);
        x.tell(5, 3, 0);
        x.tell(5, 2, 2);
        due("count(5)", x.count(5), 0);
        x.tell(5, 4, 0);
        due("count(5) then", x.count(5), 1);
    }

    @Says(promise = 12, words = "3 possible codes")
    private static void promise12CountsNoPossibleCode() {
        due("count(3)", withNonePossible().count(3), 0);
    }

    @Says(promise = 12, words = "Throws `IndexOutOfBoundsException` if what is not 0 to 6")
    private static void promise12RefusesAnotherWhat() {
        Numbers others = state -> new int[] {MIN, -7, -1, 7, 8, 256, 1 << 16, MAX};
        refused(State::isAny, INDEX, others, "count", HiddenCandles::count);
    }

    // ---- promise 13: isPossible

    @Says(promise = 13, words = "all codes without such guesses")
    private static void promise13AllArePossibleWithoutGuesses() {
        for (State state : List.of(State.NEW, State.HIDING, State.TWO_COLOURS)) {
            HiddenCandles x = state.make();
            for (int code = 0; code < state.codes(); code++) {
                due(state + ": isPossible(" + code + ")", x.isPossible(code), true);
            }
        }
    }

    @Says(promise = 13, words = "Possible codes: all those for which each guess that counts would have just the pins")
    private static void promise13NoneMayBePossible() {
        HiddenCandles x = withNonePossible();
        for (int code = 0; code < 81; code++) {
            due("isPossible(" + code + ")", x.isPossible(code), false);
        }
    }

    @Says(promise = 13, words = "Possible codes: all those for which each guess that counts would have just the pins")
    private static void promise13OneMayBePossible() {
        for (int only : new int[] {0, 40, 80}) {
            HiddenCandles x = withOnly(only);
            for (int code = 0; code < 81; code++) {
                due("isPossible(" + code + ") if only " + only + " is", x.isPossible(code), code == only);
            }
        }
    }

    @Says(promise = 13, words = NO_SUCH_CODE)
    private static void promise13RefusesWhatIsNoCode() {
        refused(State::isAny, INDEX, State::noCodes, "isPossible", HiddenCandles::isPossible);
    }

    // ---- promise 14: possible

    @Says(promise = 14, words = "the smallest one first, from 0")
    private static void promise14TellsTheFirstAndTheLastPlace() {
        HiddenCandles x = new HiddenCandles();
        due("possible(0)", x.possible(0), 0);
        due("possible(80)", x.possible(80), 80);
        due("possible(15) of two", ofTwo().possible(15), 15);
        x.tell(80, 3, 0);
        due("possible(0) of eight", x.possible(0), 26);
        due("possible(7) of eight", x.possible(7), 79);
        due("possible(0) of one", withOnly(80).possible(0), 80);
    }

    private static final String NO_SUCH_PLACE = "Throws `IndexOutOfBoundsException` if there is no such place";

    @Says(promise = 14, words = NO_SUCH_PLACE)
    private static void promise14RefusesAPlaceThatIsTooSmall() {
        Numbers tooSmall = state -> new int[] {-1, -2, -81, MIN};
        refused(State::isAny, INDEX, tooSmall, "possible", HiddenCandles::possible);
    }

    @Says(promise = 14, words = NO_SUCH_PLACE)
    private static void promise14RefusesAPlaceThatIsTooLarge() {
        Numbers tooLarge = state -> {
            int count = state.make().count(3);
            return new int[] {count, count + 1, state.codes(), 81, 256, 1 << 16, MAX};
        };
        refused(State::isAny, INDEX, tooLarge, "possible", HiddenCandles::possible);
        HiddenCandles one = withOnly(80);
        due("possible(1) of one", answer(one, y -> y.possible(1)), INDEX);
    }

    @Says(promise = 14, words = NO_SUCH_PLACE)
    private static void promise14RefusesAnyPlaceIfNoCodeIsPossible() {
        HiddenCandles x = withNonePossible();
        for (int place = -1; place <= 81; place++) {
            int asked = place;
            due("possible(" + place + ")", answer(x, y -> y.possible(asked)), INDEX);
        }
    }

    // ---- promise 15: have

    @Says(promise = 15, words = "Returns how many possible codes have this colour there.")
    private static void promise15CountsWithoutGuesses() {
        for (int place = 0; place < 4; place++) {
            for (int colour = 0; colour < 3; colour++) {
                due("have(" + place + ", " + colour + ")", new HiddenCandles().have(place, colour), 27);
            }
            due("have(" + place + ", 0) of two", ofTwo().have(place, 0), 8);
            due("have(" + place + ", 1) of two", ofTwo().have(place, 1), 8);
        }
    }

    @Says(promise = 15, words = "Returns how many possible codes have this colour there.")
    private static void promise15CountsNoneIfNoCodeIsPossible() {
        HiddenCandles x = withNonePossible();
        for (int place = 0; place < 4; place++) {
            for (int colour = 0; colour < 3; colour++) {
                due("have(" + place + ", " + colour + ")", x.have(place, colour), 0);
            }
        }
    }

    private static final String NO_PLACE_OR_COLOUR = NO_PLACE + ", or there is no such colour";

    @Says(promise = 15, words = NO_PLACE_OR_COLOUR)
    private static void promise15RefusesWhatIsNoPlace() {
        refused(State::isAny, INDEX, BoundariesTest::noPlaces, "have(.., 0)", (x, place) -> x.have(place, 0));
        refused(State::isAny, INDEX, BoundariesTest::noPlaces, "have(.., 1)", (x, place) -> x.have(place, 1));
    }

    @Says(promise = 15, words = NO_PLACE_OR_COLOUR)
    private static void promise15RefusesWhatIsNoColour() {
        refused(State::isAny, INDEX, State::noColours, "have(0, ..)", (x, colour) -> x.have(0, colour));
        refused(State::isAny, INDEX, State::noColours, "have(3, ..)", (x, colour) -> x.have(3, colour));
    }

    @Says(promise = 15, words = NO_PLACE_OR_COLOUR)
    private static void promise15RefusesWhatIsNeither() {
        refused(State::isAny, INDEX, State::noColours, "have(4, ..)", (x, colour) -> x.have(4, colour));
        refused(State::isAny, INDEX, State::noColours, "have(-1, ..)", (x, colour) -> x.have(-1, colour));
    }

    // ---- promise 16: sure

    private static final String NOT_SURE = "-1 if they have several, or no code is possible.";

    private static List<Integer> sures(HiddenCandles x) {
        return Arrays.asList(x.sure(0), x.sure(1), x.sure(2), x.sure(3));
    }

    @Says(promise = 16, words = NOT_SURE)
    private static void promise16IsNotSureIfTheyHaveSeveral() {
        due("of all codes", sures(new HiddenCandles()), List.of(-1, -1, -1, -1));
        due("of all codes of two", sures(ofTwo()), List.of(-1, -1, -1, -1));
        HiddenCandles x = new HiddenCandles();
        // 0010, 0100 and 1000: all but one have a 0 at the first three places.
        x.tell(1, 2, 2);
        due("of three codes", sures(x), List.of(-1, -1, -1, 0));
    }

    @Says(promise = 16, words = NOT_SURE)
    private static void promise16IsNotSureIfNoCodeIsPossible() {
        due("of no code", sures(withNonePossible()), List.of(-1, -1, -1, -1));
    }

    @Says(promise = 16, words = "Returns the colour that all possible codes have there")
    private static void promise16IsSureOfASingleCode() {
        due("of 0000", sures(withOnly(0)), List.of(0, 0, 0, 0));
        due("of 2222", sures(withOnly(80)), List.of(2, 2, 2, 2));
        due("of 0121", sures(withOnly(16)), List.of(0, 1, 2, 1));
    }

    @Says(promise = 16, words = NO_PLACE)
    private static void promise16RefusesWhatIsNoPlace() {
        refused(State::isAny, INDEX, BoundariesTest::noPlaces, "sure", HiddenCandles::sure);
        HiddenCandles x = withNonePossible();
        due("sure(4) if no code is possible", answer(x, y -> y.sure(4)), INDEX);
        due("sure(-1) if no code is possible", answer(x, y -> y.sure(-1)), INDEX);
    }

    // ---- promise 17: worst

    @Says(promise = 17, words = "0, if no code is possible")
    private static void promise17NoneAreLeftIfNoCodeIsPossible() {
        HiddenCandles x = withNonePossible();
        for (int code = 0; code < 81; code++) {
            due("worst(" + code + ")", x.worst(code), 0);
        }
    }

    @Says(promise = 17, words = "it is how many there are in the greatest of these heaps")
    private static void promise17OneIsLeftOfASingleCode() {
        HiddenCandles x = withOnly(80);
        for (int code = 0; code < 81; code++) {
            due("worst(" + code + ")", x.worst(code), 1);
        }
    }

    @Says(promise = 17, words = "it is how many there are in the greatest of these heaps")
    private static void promise17AllAreLeftIfAllAreInOneHeap() {
        HiddenCandles x = new HiddenCandles();
        x.tell(0, 0, 0);
        // Of the 16 codes without a 0, 0000 has no pins.
        due("worst(0)", x.worst(0), 16);
        // And the smallest and the greatest code, of all.
        due("worst(0) of all", new HiddenCandles().worst(0), 32);
        due("worst(80) of all", new HiddenCandles().worst(80), 32);
    }

    @Says(promise = 17, words = NO_SUCH_CODE)
    private static void promise17RefusesWhatIsNoCode() {
        refused(State::isAny, INDEX, State::noCodes, "worst", HiddenCandles::worst);
        due("worst(81) if no code is possible", answer(withNonePossible(), y -> y.worst(81)), INDEX);
    }

    // ---- promise 18: parts

    @Says(promise = 18, words = "Returns how many different answers it could get: heaps of possible codes by its pins.")
    private static void promise18ThereIsNoAnswerIfNoCodeIsPossible() {
        HiddenCandles x = withNonePossible();
        for (int code = 0; code < 81; code++) {
            due("parts(" + code + ")", x.parts(code), 0);
        }
    }

    @Says(promise = 18, words = "Returns how many different answers it could get: heaps of possible codes by its pins.")
    private static void promise18ThereIsOneAnswerOfASingleCode() {
        HiddenCandles x = withOnly(80);
        for (int code = 0; code < 81; code++) {
            due("parts(" + code + ")", x.parts(code), 1);
        }
    }

    @Says(promise = 18, words = "Returns how many different answers it could get: heaps of possible codes by its pins.")
    private static void promise18TheAnswerOfNoPinsAndThatOfFourBlackOnesCount() {
        // 0 to 4 black pins, and no white ones.
        due("parts(0)", new HiddenCandles().parts(0), 5);
        due("parts(80)", new HiddenCandles().parts(80), 5);
        due("parts(15) of two", ofTwo().parts(15), 5);
    }

    @Says(promise = 18, words = NO_SUCH_CODE)
    private static void promise18RefusesWhatIsNoCode() {
        refused(State::isAny, INDEX, State::noCodes, "parts", HiddenCandles::parts);
        due("parts(81) if no code is possible", answer(withNonePossible(), y -> y.parts(81)), INDEX);
    }

    // ---- promise 19: best

    @Says(promise = 19, words = "-1 if there is none.")
    private static void promise19ThereIsNoneIfNoCodeIsPossible() {
        due("best()", withNonePossible().best(), -1);
        HiddenCandles two = ofTwo();
        two.tell(0, 0, 1);
        due("best() of two", two.best(), -1);
    }

    @Says(promise = 19, words = "of several one that is possible itself (whatever its number)")
    private static void promise19ASinglePossibleCodeIsAheadOfAllSmallerOnes() {
        for (int code = 0; code < 81; code++) {
            due("best() if only " + code + " is possible", withOnly(code).best(), code);
        }
    }

    @Says(promise = 19, words = "of several the smallest one")
    private static void promise19OfSeveralPossibleCodesItIsTheSmallest() {
        HiddenCandles two = ofTwo();
        two.tell(0, 3, 0);
        // Of 0001, 0010, 0100 and 1000 the first two differ from 0011 at one place; each tells the other.
        two.tell(3, 3, 0);
        due("possible codes", possibles(two), List.of(1, 2));
        due("best()", two.best(), 1);
        due("best() of all", new HiddenCandles().best(), 1);
    }

    @Says(promise = 19, words = "of all codes that with the fewest left at the worst")
    private static void promise19FewerLeftAreAheadOfAPossibleCode() {
        HiddenCandles two = ofTwo();
        two.tell(0, 3, 0);
        // Each of 0001, 0010, 0100 and 1000 leaves the three others, 0011 only two of them.
        due("worst(1)", two.worst(1), 3);
        due("worst(3)", two.worst(3), 2);
        due("best()", two.best(), 3);
    }

    @Says(promise = 19, words = "of several the smallest one")
    private static void promise19OfSeveralThatAreNotPossibleItIsTheSmallest() {
        HiddenCandles two = ofTwo();
        two.tell(0, 3, 0);
        // 0011, 0101, 0110 and their mirrors leave as many.
        due("worst(12)", two.worst(12), two.worst(3));
        due("best()", two.best(), 3);
    }

    // ---- promise 20: takes

    @Says(promise = 20, words = "1, if that is the first one")
    private static void promise20TakesOneIfTheFirstIsTheCode() {
        for (State state : State.values()) {
            HiddenCandles x = state.make();
            for (int code = 0; code < state.codes(); code++) {
                due(state + ": takes(" + code + ", " + code + ")", x.takes(code, code), 1);
            }
        }
    }

    @Says(promise = 20, words = "Plays alone: the guesses that there are do not count")
    private static void promise20PlaysAloneWhateverThereIs() {
        for (State state : State.values()) {
            HiddenCandles x = state.make();
            HiddenCandles alone = new HiddenCandles();
            alone.setColours(state.colours);
            for (int code = 0; code < state.codes(); code++) {
                due(state + ": takes(" + code + ", 3)", x.takes(code, 3), alone.takes(code, 3));
            }
        }
        due("takes(50, 4) if no code is possible", withNonePossible().takes(50, 4), 3);
    }

    @Says(promise = 20, words = "Plays alone")
    private static void promise20ChangesNothing() {
        for (State state : State.values()) {
            HiddenCandles x = state.make();
            x.takes(0, state.codes() - 1);
            due(state + ": what is there", whatIsThere(x), whatIsThere(state.make()));
            due(state + ": what comes", whatComes(x), whatComes(state.make()));
        }
    }

    @Says(promise = 20, words = "of several the smallest one")
    private static void promise20GuessesTheSmallestOfSeveralFirst() {
        // 0000 leaves 0001, 0010, 0100 and 1000, and each of these leaves all the others.
        HiddenCandles two = ofTwo();
        due("takes(1, 0)", two.takes(1, 0), 2);
        due("takes(2, 0)", two.takes(2, 0), 3);
        due("takes(4, 0)", two.takes(4, 0), 4);
        due("takes(8, 0)", two.takes(8, 0), 5);
    }

    @Says(promise = 20, words = "so codes are 0 to c * c * c * c - 1")
    private static void promise20TakesTheSmallestAndTheGreatestCode() {
        due("takes(0, 15) of two", ofTwo().takes(0, 15), 2);
        due("takes(15, 0) of two", ofTwo().takes(15, 0), 2);
        // 2222 leaves the codes of 0 and 1; 0001 of them 0000, 0011, 0101 and 1001; and 0011 of these 0000 alone.
        due("takes(0, 80)", new HiddenCandles().takes(0, 80), 4);
        due("takes(1, 80)", new HiddenCandles().takes(1, 80), 2);
    }

    @Says(promise = 20, words = NO_SUCH_CODE)
    private static void promise20RefusesACodeThatIsNone() {
        refused(State::isAny, INDEX, State::noCodes, "takes(.., 0)", (x, code) -> x.takes(code, 0));
    }

    @Says(promise = 20, words = NO_SUCH_CODE)
    private static void promise20RefusesAFirstGuessThatIsNoCode() {
        refused(State::isAny, INDEX, State::noCodes, "takes(0, ..)", (x, first) -> x.takes(0, first));
    }

    @Says(promise = 20, words = NO_SUCH_CODE)
    private static void promise20RefusesTwoThatAreNone() {
        refused(State::isAny, INDEX, State::noCodes, "takes of both", (x, code) -> x.takes(code, code));
    }

    // ---- promise 21: mean

    @Says(promise = 21, words = "0 without any.")
    private static void promise21IsZeroWithoutGuesses() {
        due("mean() of a new object", new HiddenCandles().mean(), 0.0);
        due("mean() with a hidden code", State.HIDING.make().mean(), 0.0);
        HiddenCandles x = withOnly(5);
        x.forget();
        due("mean() with all taken back", x.mean(), 0.0);
        x.tell(5, 4, 0);
        x.setColours(3);
        due("mean() behind setColours", x.mean(), 0.0);
    }

    @Says(promise = 21, words = "the mean of the black pins of all guesses")
    private static void promise21LeavesOutAGuessThatWasTakenBack() {
        HiddenCandles x = new HiddenCandles();
        x.tell(0, 1, 0);
        x.tell(0, 4, 0);
        x.forget();
        due("mean()", x.mean(), 1.0);
    }

    @Says(promise = 21, words = "doubted ones as well")
    private static void promise21CountsDoubtedOnes() {
        HiddenCandles x = new HiddenCandles();
        x.tell(0, 4, 0);
        x.tell(0, 1, 0);
        x.doubt(0, true);
        due("mean() with one doubted", x.mean(), 2.5);
        x.doubt(1, true);
        due("mean() with all doubted", x.mean(), 2.5);
    }

    @Says(promise = 21, words = "the mean of the black pins of all guesses")
    private static void promise21ReachesFromZeroToFour() {
        HiddenCandles x = new HiddenCandles();
        x.tell(0, 0, 4);
        due("mean() of white pins alone", x.mean(), 0.0);
        HiddenCandles y = new HiddenCandles();
        for (int guess = 0; guess < 12; guess++) {
            y.tell(0, 4, 0);
        }
        due("mean() of twelve with four", y.mean(), 4.0);
    }

    @Says(promise = 21, words = "the mean of the black pins of all guesses")
    private static void promise21IsNotCut() {
        HiddenCandles x = new HiddenCandles();
        x.tell(0, 1, 0);
        for (int guess = 1; guess < 12; guess++) {
            x.tell(0, 0, 0);
        }
        due("mean() of one in twelve", x.mean(), 1.0 / 12.0);
    }

    // ---- promise 22: digest

    /** The numbers as the document counts them up, in an arithmetic that does not wrap around by itself. */
    private static long checksum(List<Integer> numbers) {
        BigInteger d = BigInteger.valueOf(1583);
        for (int number : numbers) {
            d = d.multiply(BigInteger.valueOf(31)).add(BigInteger.valueOf(number));
        }
        return d.longValue();
    }

    private static List<Integer> numbers(HiddenCandles x, int hidden) {
        List<Integer> numbers = counts(x);
        numbers.add(hidden);
        for (int guess = 0; guess < x.count(2); guess++) {
            for (int what = 0; what <= 5; what++) {
                numbers.add(x.told(guess, what));
            }
        }
        for (int place = 0; place < 4; place++) {
            numbers.add(x.sure(place));
            for (int colour = 0; colour < x.count(0); colour++) {
                numbers.add(x.have(place, colour));
            }
        }
        numbers.addAll(possibles(x));
        return numbers;
    }

    @Says(promise = 22, words = "d becomes d * 31 + x, which wraps around as a 64-bit integer")
    private static void promise22WrapsAround() {
        for (State state : State.values()) {
            HiddenCandles x = state.make();
            due(state + ": digest()", x.digest(), checksum(numbers(x, state.hides ? 6 : -1)));
        }
    }

    @Says(promise = 22, words = "the hidden code, -1 if there is none")
    private static void promise22TellsNoCodeFromTheSmallest() {
        HiddenCandles x = new HiddenCandles();
        List<Integer> numbers = numbers(x, -1);
        due("digest() without a code", x.digest(), checksum(numbers));
        x.hide(0);
        numbers.set(4, 1);
        numbers.set(7, 0);
        due("digest() with 0000", x.digest(), checksum(numbers));
    }

    @Says(promise = 22, words = "for each guess what told() tells")
    private static void promise22OfNoGuessesNothingIsAdded() {
        HiddenCandles x = withOnly(5);
        x.doubt(0, true);
        x.forget();
        due("digest() with all taken back", x.digest(), new HiddenCandles().digest());
    }

    @Says(promise = 22, words = "the possible codes, the smallest one first")
    private static void promise22OfNoPossibleCodesNothingIsAdded() {
        HiddenCandles x = new HiddenCandles();
        x.tell(0, 0, 4);
        List<Integer> numbers = new ArrayList<>(List.of(3, 81, 1, 0, 0, 0, 0, -1, 0, 0, 4, 0, 0, 0));
        for (int place = 0; place < 4; place++) {
            numbers.addAll(List.of(-1, 0, 0, 0));
        }
        due("digest()", x.digest(), checksum(numbers));
    }

    @Says(promise = 22, words = CHANGES_NOTHING)
    private static void promise22ChangesNothingItself() {
        for (State state : State.values()) {
            HiddenCandles x = state.make();
            due(state + ": digest() again", x.digest(), answer(x, HiddenCandles::digest));
            due(state + ": what comes", whatComes(x), whatComes(state.make()));
        }
    }
}
