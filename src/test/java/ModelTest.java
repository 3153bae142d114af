import java.util.ArrayList;
import java.util.List;
import java.util.Map;
import java.util.TreeMap;

/** Long runs of calls, right and wrong ones, beside a slow model that is written from the document alone. */
public final class ModelTest {
    private static final int RUNS = 120;
    private static final int CALLS = 512;
    private static final String INDEX = "IndexOutOfBoundsException";
    private static final String ARGUMENT = "IllegalArgumentException";
    private static final String STATE = "IllegalStateException";

    private static int wrong = 0;

    public static void main(String[] args) {
        for (int run = 1; run <= RUNS; run++) {
            new Run(run).go();
        }
        everyPlay(2);
        everyPlay(3);
        if (wrong > 0) {
            System.out.println("model: " + wrong + " wrong");
            System.exit(1);
        }
    }

    private static void check(String where, Object got, Object due) {
        if (!got.equals(due)) {
            wrong++;
            if (wrong <= 40) {
                System.out.println(where + " answered " + got + ", due is " + due);
            }
        }
    }

    private static void everyPlay(int colours) {
        Model model = new Model();
        model.call("setColours", colours, 0, 0);
        int codes = model.all().size();
        HiddenCandles candles = new HiddenCandles();
        candles.setColours(colours);
        for (int first = 0; first < codes; first++) {
            for (int code = 0; code < codes; code++) {
                check("pins(" + first + ", " + code + ")", candles.pins(first, code), model.pins(first, code));
                check("takes(" + code + ", " + first + ")", candles.takes(code, first), model.takes(code, first));
            }
        }
    }

    /** Thrown by the model in the place of the exception that is due. */
    private static final class Due extends RuntimeException {
        private static final long serialVersionUID = 1;
        private final String name;

        private Due(String name) {
            this.name = name;
        }
    }

    private static final class Guess {
        private int code;
        private int black;
        private int white;
        private boolean doubted;
    }

    private static final class Model {
        // Pins, and 1, that have been found once: the same pins are asked for over and over.
        private static final int[][][] KNOWN = new int[4][81][81];

        private int colours = 3;
        private int hidden = -1;
        private final List<Guess> guesses = new ArrayList<>();

        private String text(int code) {
            String digits = Integer.toString(code, colours);
            return "0".repeat(4 - digits.length()) + digits;
        }

        private List<Integer> all() {
            List<Integer> all = new ArrayList<>();
            int codes = Integer.parseInt("1" + "0000", colours);
            for (int code = 0; code < codes; code++) {
                all.add(code);
            }
            return all;
        }

        private int pins(int guess, int code) {
            int[] row = KNOWN[colours][guess];
            if (row[code] == 0) {
                row[code] = 1 + crossOut(guess, code);
            }
            return row[code] - 1;
        }

        /** Crosses out what fits: first the same places, then the same colours wherever they are. */
        private int crossOut(int guess, int code) {
            StringBuilder a = new StringBuilder(text(guess));
            StringBuilder b = new StringBuilder(text(code));
            int pins = 0;
            for (int i = 3; i >= 0; i--) {
                if (a.charAt(i) == b.charAt(i)) {
                    pins += 5;
                    a.deleteCharAt(i);
                    b.deleteCharAt(i);
                }
            }
            while (a.length() > 0) {
                int at = b.indexOf(a.substring(0, 1));
                if (at >= 0) {
                    pins++;
                    b.deleteCharAt(at);
                }
                a.deleteCharAt(0);
            }
            return pins;
        }

        private List<Integer> possibles(int first) {
            List<Integer> possibles = all();
            for (Guess g : guesses.subList(0, first)) {
                if (!g.doubted) {
                    possibles.removeIf(code -> pins(g.code, code) != 5 * g.black + g.white);
                }
            }
            return possibles;
        }

        private List<Integer> possibles() {
            return possibles(guesses.size());
        }

        private Map<Integer, Integer> heaps(int guess, List<Integer> of) {
            Map<Integer, Integer> heaps = new TreeMap<>();
            for (int code : of) {
                heaps.merge(pins(guess, code), 1, Integer::sum);
            }
            return heaps;
        }

        private int worst(int guess, List<Integer> of) {
            return heaps(guess, of).values().stream().mapToInt(Integer::intValue).max().orElse(0);
        }

        /** Of these the one with the fewest left, then one that is possible, then the smallest. */
        private int least(List<Integer> among, List<Integer> possibles) {
            long least = Long.MAX_VALUE;
            for (int code : among) {
                long rank = worst(code, possibles) * 10000L + (possibles.contains(code) ? 0 : 1000) + code;
                least = Math.min(least, rank);
            }
            return (int) (least % 1000);
        }

        private int best() {
            return possibles().isEmpty() ? -1 : least(all(), possibles());
        }

        private int takes(int code, int first) {
            List<Integer> left = all();
            int taken = 1;
            for (int next = first; next != code; taken++) {
                int asked = next;
                left.removeIf(one -> pins(asked, one) != pins(asked, code));
                next = least(left, left);
            }
            return taken;
        }

        private void need(boolean holds, String otherwise) {
            if (!holds) {
                throw new Due(otherwise);
            }
        }

        private void needCode(int code) {
            need(all().contains(code), INDEX);
        }

        private void needPlace(int place) {
            need(place >= 0 && place <= 3, INDEX);
        }

        private void needGuess(int guess) {
            need(guess >= 0 && guess < guesses.size(), INDEX);
        }

        private void add(int code, int pins) {
            need(guesses.size() < 12, STATE);
            Guess g = new Guess();
            g.code = code;
            g.black = pins / 5;
            g.white = pins % 5;
            guesses.add(g);
        }

        private int told(int guess, int what) {
            Guess g = guesses.get(guess);
            switch (what) {
                case 0: return g.code;
                case 1: return g.black;
                case 2: return g.white;
                case 3: return g.doubted ? 1 : 0;
                case 4: return possibles(guess + 1).size();
                default:
                    return (int) all().stream().filter(code -> pins(g.code, code) == 5 * g.black + g.white).count();
            }
        }

        private int count(int what) {
            switch (what) {
                case 0: return colours;
                case 1: return all().size();
                case 2: return guesses.size();
                case 3: return possibles().size();
                case 4: return hidden < 0 ? 0 : 1;
                case 5: return (int) guesses.stream().filter(g -> g.black == 4).count();
                default: return (int) guesses.stream().filter(g -> g.doubted).count();
            }
        }

        private int have(int place, int colour) {
            return (int) possibles().stream().filter(code -> text(code).charAt(place) == '0' + colour).count();
        }

        private int sure(int place) {
            for (int colour = 0; colour < colours; colour++) {
                if (!possibles().isEmpty() && have(place, colour) == possibles().size()) {
                    return colour;
                }
            }
            return -1;
        }

        private int swap(int a, int b) {
            char[] candles = text(hidden).toCharArray();
            char one = candles[a];
            candles[a] = candles[b];
            candles[b] = one;
            hidden = Integer.parseInt(new String(candles), colours);
            return hidden;
        }

        private long digest() {
            List<Integer> numbers = new ArrayList<>();
            for (int what = 0; what <= 6; what++) {
                numbers.add(count(what));
            }
            numbers.add(hidden);
            for (int guess = 0; guess < guesses.size(); guess++) {
                for (int what = 0; what <= 5; what++) {
                    numbers.add(told(guess, what));
                }
            }
            for (int place = 0; place < 4; place++) {
                numbers.add(sure(place));
                for (int colour = 0; colour < colours; colour++) {
                    numbers.add(have(place, colour));
                }
            }
            numbers.addAll(possibles());
            long d = 1583;
            for (int x : numbers) {
                d = d * 31 + x;
            }
            return d;
        }

        private double mean() {
            double sum = 0;
            for (Guess g : guesses) {
                sum += g.black;
            }
            return guesses.isEmpty() ? 0 : sum / guesses.size();
        }

        private Object call(String name, int a, int b, int c) {
            switch (name) {
                case "setColours": {
                    need(a == 2 || a == 3, ARGUMENT);
                    int before = colours;
                    colours = a;
                    hidden = -1;
                    guesses.clear();
                    return before;
                }
                case "hide": {
                    needCode(a);
                    int before = hidden;
                    hidden = a;
                    return before;
                }
                case "swap":
                    needPlace(a);
                    needPlace(b);
                    need(hidden >= 0, STATE);
                    return swap(a, b);
                case "guess":
                    needCode(a);
                    need(hidden >= 0, STATE);
                    add(a, pins(a, hidden));
                    return pins(a, hidden);
                case "tell":
                    needCode(a);
                    need(b >= 0 && c >= 0 && (long) b + c <= 4 && !(b == 3 && c == 1), ARGUMENT);
                    add(a, 5 * b + c);
                    return possibles().size();
                case "doubt": {
                    needGuess(a);
                    boolean was = guesses.get(a).doubted;
                    guesses.get(a).doubted = b == 1;
                    return was;
                }
                case "forget":
                    need(!guesses.isEmpty(), STATE);
                    return guesses.remove(guesses.size() - 1).code;
                default:
                    return ask(name, a, b);
            }
        }

        private Object ask(String name, int a, int b) {
            switch (name) {
                case "colour":
                    needCode(a);
                    needPlace(b);
                    return text(a).charAt(b) - '0';
                case "pins":
                    needCode(a);
                    needCode(b);
                    return pins(a, b);
                case "told":
                    needGuess(a);
                    need(b >= 0 && b <= 5, INDEX);
                    return told(a, b);
                case "count":
                    need(a >= 0 && a <= 6, INDEX);
                    return count(a);
                case "isPossible":
                    needCode(a);
                    return possibles().contains(a);
                case "possible":
                    need(a >= 0 && a < possibles().size(), INDEX);
                    return possibles().get(a);
                case "have":
                    needPlace(a);
                    need(b >= 0 && b < colours, INDEX);
                    return have(a, b);
                case "sure":
                    needPlace(a);
                    return sure(a);
                case "worst":
                    needCode(a);
                    return worst(a, possibles());
                case "parts":
                    needCode(a);
                    return heaps(a, possibles()).size();
                case "best":
                    return best();
                case "takes":
                    needCode(a);
                    needCode(b);
                    return takes(a, b);
                case "mean":
                    return mean();
                case "digest":
                    return digest();
                default:
                    throw new AssertionError(name);
            }
        }
    }

    private static final class Run {
        private static final String[] CHANGES = {
            "setColours", "hide", "swap", "guess", "guess", "guess", "tell", "tell", "tell", "doubt", "doubt", "forget",
        };
        private static final String[] QUESTIONS = {
            "colour", "pins", "told", "told", "count", "isPossible", "possible", "have", "sure",
            "worst", "parts", "best", "takes", "mean",
        };
        private static final int[] STRANGE = {
            Integer.MIN_VALUE, Integer.MAX_VALUE, -1, -2, 4, 5, 12, 13, 16, 17, 81, 82, 256, 1 << 16, -81,
        };

        private final int number;
        private final Model model = new Model();
        private final HiddenCandles candles = new HiddenCandles();
        private long seed;

        private Run(int number) {
            this.number = number;
            this.seed = number * 7919L;
        }

        private int below(int bound) {
            seed = seed * 6364136223846793005L + 1442695040888963407L;
            return (int) ((seed >>> 33) % bound);
        }

        /** Mostly a number that can be, now and then one that can not. */
        private int some(int bound) {
            if (below(12) == 0) {
                return STRANGE[below(STRANGE.length)];
            }
            return below(below(10) == 0 ? bound + 2 : bound) - (below(40) == 0 ? 1 : 0);
        }

        private void go() {
            for (int call = 1; call <= CALLS; call += 2) {
                step(call);
                // Behind every call, since one that throws must change nothing and a question nothing either.
                compare(call + 1, "digest", 0, 0, 0);
            }
        }

        private void step(int call) {
            int codes = model.all().size();
            String name = below(3) == 0 ? CHANGES[below(CHANGES.length)] : QUESTIONS[below(QUESTIONS.length)];
            switch (name) {
                case "setColours":
                    // Seldom, or no run would ever come to twelve guesses.
                    if (below(4) == 0) {
                        compare(call, name, 2 + some(2), 0, 0);
                    }
                    break;
                case "swap":
                    compare(call, name, some(4), some(4), 0);
                    break;
                case "tell":
                    tell(call, codes);
                    break;
                case "doubt":
                    compare(call, name, some(Math.max(1, model.guesses.size())), below(2), 0);
                    break;
                case "colour":
                    compare(call, name, some(codes), some(4), 0);
                    break;
                case "told":
                    compare(call, name, some(Math.max(1, model.guesses.size())), some(6), 0);
                    break;
                case "count":
                    compare(call, name, some(7), 0, 0);
                    break;
                case "possible":
                    compare(call, name, some(Math.max(1, model.possibles().size())), 0, 0);
                    break;
                case "have":
                    compare(call, name, some(4), some(model.colours), 0);
                    break;
                case "sure":
                    compare(call, name, some(4), 0, 0);
                    break;
                default:
                    compare(call, name, some(codes), some(codes), 0);
            }
        }

        /** Half of what is told is what some code would answer, so that possible codes stay. */
        private void tell(int call, int codes) {
            int code = some(codes);
            if (below(2) == 0 && code >= 0 && code < codes && !model.possibles().isEmpty()) {
                int pins = model.pins(code, model.possibles().get(below(model.possibles().size())));
                compare(call, "tell", code, pins / 5, pins % 5);
            } else {
                compare(call, "tell", code, some(5), some(4));
            }
        }

        private void compare(int call, String name, int a, int b, int c) {
            Object due;
            try {
                due = model.call(name, a, b, c);
            } catch (Due e) {
                due = e.name;
            }
            Object got;
            try {
                got = call(name, a, b, c);
            } catch (RuntimeException e) {
                got = e.getClass().getSimpleName();
            }
            check("run " + number + ", call " + call + ": " + name + "(" + a + ", " + b + ", " + c + ")", got, due);
        }

        private Object call(String name, int a, int b, int c) {
            switch (name) {
                case "setColours": return candles.setColours(a);
                case "hide": return candles.hide(a);
                case "swap": return candles.swap(a, b);
                case "guess": return candles.guess(a);
                case "tell": return candles.tell(a, b, c);
                case "doubt": return candles.doubt(a, b == 1);
                case "forget": return candles.forget();
                case "colour": return candles.colour(a, b);
                case "pins": return candles.pins(a, b);
                case "told": return candles.told(a, b);
                case "count": return candles.count(a);
                case "isPossible": return candles.isPossible(a);
                case "possible": return candles.possible(a);
                case "have": return candles.have(a, b);
                case "sure": return candles.sure(a);
                case "worst": return candles.worst(a);
                case "parts": return candles.parts(a);
                case "best": return candles.best();
                case "takes": return candles.takes(a, b);
                case "mean": return candles.mean();
                case "digest": return candles.digest();
                default: throw new AssertionError(name);
            }
        }
    }
}
