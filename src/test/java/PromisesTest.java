import java.util.ArrayList;
import java.util.List;

/** Each promise of the document by ordinary inputs; BoundariesTest has the edges, and what is refused. */
public final class PromisesTest {
    private static int promise = 0;
    private static int wrong = 0;

    public static void main(String[] args) {
        promise1();
        promise2();
        promise3();
        promise4();
        promise5();
        promise6();
        promise7();
        promise8();
        promise9();
        promise10();
        promise11();
        promise12();
        promise13();
        promise14();
        promise15();
        promise16();
        promise17();
        promise18();
        promise19();
        promise20();
        promise21();
        promise22();
        if (wrong > 0) {
            System.exit(1);
        }
    }

    private static void due(String what, Object got, Object want) {
        if (!got.equals(want)) {
            wrong++;
            System.out.println("promise " + promise + ": " + what + " answered " + got + ", due is " + want);
        }
    }

    private static List<Integer> possibles(HiddenCandles x) {
        List<Integer> possibles = new ArrayList<>();
        for (int place = 0; place < x.count(3); place++) {
            possibles.add(x.possible(place));
        }
        return possibles;
    }

    private static HiddenCandles ofTwo() {
        HiddenCandles x = new HiddenCandles();
        x.setColours(2);
        return x;
    }

    private static void promise1() {
        promise = 1;
        HiddenCandles x = new HiddenCandles();
        due("count(0)", x.count(0), 3);
        due("count(1)", x.count(1), 81);
        due("count(2)", x.count(2), 0);
        due("count(3)", x.count(3), 81);
        due("count(4)", x.count(4), 0);
        due("count(5)", x.count(5), 0);
        due("count(6)", x.count(6), 0);
        due("hide(0)", x.hide(0), -1);
        due("another object's count(4)", new HiddenCandles().count(4), 0);
    }

    private static void promise2() {
        promise = 2;
        HiddenCandles x = new HiddenCandles();
        x.hide(80);
        x.guess(1);
        x.doubt(0, true);
        due("setColours(3)", x.setColours(3), 3);
        due("count(2) with as many colours", x.count(2), 0);
        due("count(4) with as many colours", x.count(4), 0);
        x.tell(3, 0, 0);
        due("setColours(2)", x.setColours(2), 3);
        due("count(0)", x.count(0), 2);
        due("count(1)", x.count(1), 16);
        due("count(3)", x.count(3), 16);
        due("hide(15)", x.hide(15), -1);
        x.guess(15);
        due("told(0, 3), doubted before setColours", x.told(0, 3), 0);
        due("setColours(3) again", x.setColours(3), 2);
        due("count(3) again", x.count(3), 81);
    }

    private static void promise3() {
        promise = 3;
        HiddenCandles x = new HiddenCandles();
        due("hide(80)", x.hide(80), -1);
        x.guess(80);
        due("hide(0)", x.hide(0), 80);
        due("told(0, 1) behind it", x.told(0, 1), 4);
        due("count(3) behind it", x.count(3), 1);
        due("isPossible(0) behind it", x.isPossible(0), false);
        due("hide(0) again", x.hide(0), 0);
        due("hide(1)", x.hide(1), 0);
    }

    private static void promise4() {
        promise = 4;
        HiddenCandles x = new HiddenCandles();
        x.hide(1);
        x.guess(1);
        due("swap(0, 3)", x.swap(0, 3), 27);
        due("told(0, 1) behind it", x.told(0, 1), 4);
        due("swap(0, 1)", x.swap(0, 1), 9);
        due("swap(2, 1)", x.swap(2, 1), 3);
        due("swap(2, 2)", x.swap(2, 2), 3);
        due("swap(0, 3) of the same colour", x.swap(0, 3), 3);
        due("count(2)", x.count(2), 1);
        due("hide(0)", x.hide(0), 3);
        HiddenCandles two = ofTwo();
        two.hide(6);
        due("swap(3, 1) of two colours", two.swap(3, 1), 3);
        due("pins behind it", two.guess(3), 20);
    }

    private static void promise5() {
        promise = 5;
        HiddenCandles x = new HiddenCandles();
        x.hide(1);
        due("guess(1)", x.guess(1), 20);
        due("guess(3)", x.guess(3), 12);
        due("guess(0)", x.guess(0), 15);
        due("guess(80)", x.guess(80), 0);
        due("guess(40)", x.guess(40), 5);
        due("count(2)", x.count(2), 5);
        due("count(3)", x.count(3), 1);
        due("told(1, 0)", x.told(1, 0), 3);
        due("told(4, 3)", x.told(4, 3), 0);
    }

    private static void promise6() {
        promise = 6;
        HiddenCandles x = new HiddenCandles();
        due("tell(0, 3, 0)", x.tell(0, 3, 0), 8);
        due("tell(1, 4, 0)", x.tell(1, 4, 0), 1);
        due("tell(1, 0, 4), which can't be", x.tell(1, 0, 4), 0);
        due("told(2, 1)", x.told(2, 1), 0);
        due("told(2, 2)", x.told(2, 2), 4);
        HiddenCandles hiding = new HiddenCandles();
        hiding.hide(0);
        due("tell(80, 4, 0), whatever is hidden", hiding.tell(80, 4, 0), 1);
        due("possible(0)", hiding.possible(0), 80);
        int[][] allPins = {
            {0, 0}, {0, 1}, {0, 2}, {0, 3}, {0, 4}, {1, 0}, {1, 1}, {1, 2}, {1, 3}, {2, 0}, {2, 1}, {2, 2},
        };
        HiddenCandles y = new HiddenCandles();
        for (int i = 0; i < 12; i++) {
            y.tell(4, allPins[i][0], allPins[i][1]);
            due("black pins of guess " + i, y.told(i, 1), allPins[i][0]);
            due("white pins of guess " + i, y.told(i, 2), allPins[i][1]);
        }
    }

    private static void promise7() {
        promise = 7;
        HiddenCandles x = new HiddenCandles();
        x.tell(0, 4, 0);
        x.tell(80, 4, 0);
        due("count(3)", x.count(3), 0);
        due("doubt(0, true)", x.doubt(0, true), false);
        due("possible codes then", possibles(x), List.of(80));
        due("doubt(0, true) again", x.doubt(0, true), true);
        due("doubt(1, false)", x.doubt(1, false), false);
        due("doubt(1, true)", x.doubt(1, true), false);
        due("count(3) with both doubted", x.count(3), 81);
        due("count(6)", x.count(6), 2);
        due("doubt(0, false)", x.doubt(0, false), true);
        due("possible codes at last", possibles(x), List.of(0));
    }

    private static void promise8() {
        promise = 8;
        HiddenCandles x = new HiddenCandles();
        x.hide(40);
        x.tell(7, 4, 0);
        x.tell(8, 4, 0);
        due("forget()", x.forget(), 8);
        due("possible codes then", possibles(x), List.of(7));
        x.doubt(0, true);
        due("forget() of a doubted one", x.forget(), 7);
        due("count(3)", x.count(3), 81);
        due("count(4)", x.count(4), 1);
        due("count(6)", x.count(6), 0);
        due("tell(6, 4, 0) in its place counts", x.tell(6, 4, 0), 1);
    }

    private static void promise9() {
        promise = 9;
        HiddenCandles x = new HiddenCandles();
        int[] colours = {1, 2, 0, 2};
        for (int place = 0; place < 4; place++) {
            due("colour(47, " + place + ")", x.colour(47, place), colours[place]);
            due("colour(80, " + place + ")", x.colour(80, place), 2);
        }
        HiddenCandles two = ofTwo();
        due("colour(8, 0) of two", two.colour(8, 0), 1);
        due("colour(8, 3) of two", two.colour(8, 3), 0);
        due("colour(2, 2) of two", two.colour(2, 2), 1);
    }

    private static void promise10() {
        promise = 10;
        HiddenCandles x = new HiddenCandles();
        // 0001 and 0010; 0012 and 2100; 0000 and 2222; 0011 and 1100; 0112 and 0122; 0000 and 0001.
        int[][] known = {{1, 3, 12}, {5, 63, 4}, {0, 80, 0}, {4, 36, 4}, {14, 17, 15}, {0, 1, 15}, {50, 50, 20}};
        for (int[] row : known) {
            due("pins(" + row[0] + ", " + row[1] + ")", x.pins(row[0], row[1]), row[2]);
            due("pins(" + row[1] + ", " + row[0] + ")", x.pins(row[1], row[0]), row[2]);
        }
        due("count(2) behind all", x.count(2), 0);
        HiddenCandles two = ofTwo();
        due("pins(5, 10) of two", two.pins(5, 10), 4);
    }

    private static void promise11() {
        promise = 11;
        HiddenCandles x = new HiddenCandles();
        x.tell(0, 3, 0);
        x.tell(1, 4, 0);
        x.tell(1, 2, 2);
        x.doubt(1, true);
        int[][] rows = {{0, 3, 0, 0, 8, 8}, {1, 4, 0, 1, 8, 1}, {1, 2, 2, 0, 3, 3}};
        for (int guess = 0; guess < rows.length; guess++) {
            for (int what = 0; what < 6; what++) {
                due("told(" + guess + ", " + what + ")", x.told(guess, what), rows[guess][what]);
            }
        }
        x.doubt(0, true);
        due("told(0, 4), all doubted so far", x.told(0, 4), 81);
        due("told(0, 5), doubted or not", x.told(0, 5), 8);
    }

    private static void promise12() {
        promise = 12;
        HiddenCandles x = ofTwo();
        x.hide(0);
        x.guess(0);
        x.guess(1);
        x.tell(9, 4, 0);
        x.doubt(2, true);
        int[] due = {2, 16, 3, 1, 1, 2, 1};
        for (int what = 0; what < due.length; what++) {
            due("count(" + what + ")", x.count(what), due[what]);
        }
    }

    private static void promise13() {
        promise = 13;
        HiddenCandles x = new HiddenCandles();
        due("isPossible(80) without guesses", x.isPossible(80), true);
        x.tell(0, 3, 0);
        due("isPossible(0)", x.isPossible(0), false);
        due("isPossible(1)", x.isPossible(1), true);
        due("isPossible(54)", x.isPossible(54), true);
        due("isPossible(4)", x.isPossible(4), false);
        HiddenCandles two = ofTwo();
        due("isPossible(15) of two", two.isPossible(15), true);
    }

    private static void promise14() {
        promise = 14;
        HiddenCandles x = new HiddenCandles();
        due("possible(0)", x.possible(0), 0);
        due("possible(80)", x.possible(80), 80);
        x.tell(0, 3, 0);
        due("possible codes", possibles(x), List.of(1, 2, 3, 6, 9, 18, 27, 54));
    }

    private static void promise15() {
        promise = 15;
        HiddenCandles x = new HiddenCandles();
        due("have(3, 2) of all", x.have(3, 2), 27);
        x.tell(0, 3, 0);
        due("have(1, 0)", x.have(1, 0), 6);
        due("have(1, 1)", x.have(1, 1), 1);
        due("have(3, 2)", x.have(3, 2), 1);
        x.tell(1, 4, 0);
        due("have(3, 1)", x.have(3, 1), 1);
        due("have(0, 1)", x.have(0, 1), 0);
        HiddenCandles two = ofTwo();
        due("have(0, 1) of two", two.have(0, 1), 8);
    }

    private static void promise16() {
        promise = 16;
        HiddenCandles x = new HiddenCandles();
        due("sure(0) of all", x.sure(0), -1);
        // 0001 has two black pins and two white ones for 0010, 0100 and 1000 alone.
        x.tell(1, 2, 2);
        due("sure(3)", x.sure(3), 0);
        due("sure(2)", x.sure(2), -1);
        x.tell(3, 4, 0);
        due("sure(2) of one", x.sure(2), 1);
        due("sure(0) of one", x.sure(0), 0);
        x.tell(80, 4, 0);
        for (int place = 0; place < 4; place++) {
            due("sure(" + place + ") of none", x.sure(place), -1);
        }
    }

    private static void promise17() {
        promise = 17;
        HiddenCandles x = new HiddenCandles();
        // 0000 gets as many black pins as there are 0s: 16, 32, 24, 8 and 1 of all codes.
        due("worst(0)", x.worst(0), 32);
        due("worst(40)", x.worst(40), 32);
        x.tell(0, 3, 0);
        due("worst(0) of eight", x.worst(0), 8);
        due("worst(80) of eight", x.worst(80), 4);
        x.tell(0, 0, 0);
        due("worst(0) of none", x.worst(0), 0);
        HiddenCandles two = ofTwo();
        due("worst(0) of two", two.worst(0), 6);
    }

    private static void promise18() {
        promise = 18;
        HiddenCandles x = new HiddenCandles();
        due("parts(0)", x.parts(0), 5);
        due("parts(4)", x.parts(4), 13);
        x.tell(0, 3, 0);
        due("parts(0) of eight", x.parts(0), 1);
        due("parts(80) of eight", x.parts(80), 2);
        due("parts(1) of eight", x.parts(1), 4);
        x.tell(0, 0, 0);
        due("parts(0) of none", x.parts(0), 0);
        HiddenCandles two = ofTwo();
        due("parts(0) of two", two.parts(0), 5);
    }

    private static void promise19() {
        promise = 19;
        HiddenCandles x = new HiddenCandles();
        due("best() of all", x.best(), 1);
        x.tell(50, 4, 0);
        due("best() of one, ahead of smaller ones as good", x.best(), 50);
        x.tell(49, 4, 0);
        due("best() of none", x.best(), -1);
        HiddenCandles y = new HiddenCandles();
        y.tell(40, 3, 0);
        // A code that is not possible may be better than all that are.
        int best = y.best();
        due("whether best() is possible", y.isPossible(best), false);
        for (int i = 0; i < y.count(3); i++) {
            due("possible ones are worse", y.worst(y.possible(i)) > y.worst(best), true);
        }
        for (int code = 0; code < best; code++) {
            due("smaller ones are worse", y.worst(code) > y.worst(best), true);
        }
        due("best() of two colours", ofTwo().best(), 1);
    }

    private static void promise20() {
        promise = 20;
        HiddenCandles x = new HiddenCandles();
        for (int code = 0; code < 81; code++) {
            due("takes(code, code)", x.takes(code, code), 1);
        }
        due("takes(50, 4)", x.takes(50, 4), 3);
        due("takes(80, 0)", x.takes(80, 0), 3);
        // 0000 leaves 1111 alone of two colours, and of 0001, 0010, 0100, 1000 the smallest is guessed first.
        HiddenCandles two = ofTwo();
        due("takes(15, 0) of two", two.takes(15, 0), 2);
        due("takes(1, 0) of two", two.takes(1, 0), 2);
        due("takes(2, 0) of two", two.takes(2, 0), 3);
        due("takes(4, 0) of two", two.takes(4, 0), 4);
        due("takes(8, 0) of two", two.takes(8, 0), 5);
        x.hide(3);
        x.tell(3, 0, 0);
        x.tell(3, 4, 0);
        due("takes(50, 4), whatever was told", x.takes(50, 4), 3);
    }

    private static void promise21() {
        promise = 21;
        HiddenCandles x = new HiddenCandles();
        due("mean() without guesses", x.mean(), 0.0);
        x.tell(0, 3, 0);
        due("mean() of 3", x.mean(), 3.0);
        x.tell(0, 1, 3);
        x.tell(0, 1, 0);
        due("mean() of 3, 1, 1", x.mean(), 5.0 / 3.0);
        x.doubt(0, true);
        due("mean() with a doubted one", x.mean(), 5.0 / 3.0);
        x.forget();
        x.forget();
        x.forget();
        due("mean() with all taken back", x.mean(), 0.0);
    }

    private static void promise22() {
        promise = 22;
        HiddenCandles x = ofTwo();
        x.hide(9);
        x.tell(0, 3, 0);
        x.tell(1, 4, 0);
        x.doubt(0, true);
        int[] numbers = {
            2, 16, 2, 1, 1, 1, 1, 9, 0, 3, 0, 1, 16, 4, 1, 4, 0, 0, 1, 1,
            0, 1, 0, 0, 1, 0, 0, 1, 0, 1, 0, 1, 1,
        };
        long d = 1583;
        for (int number : numbers) {
            d = d * 31 + number;
        }
        due("digest()", x.digest(), d);
        due("digest() again", x.digest(), d);
        x.tell(1, 0, 0);
        x.doubt(2, true);
        x.forget();
        due("digest() with a guess taken back", x.digest(), d);
        // Without a code and guesses: three colours, 81 codes, -1 hidden, and at no place a sure colour.
        d = 1583;
        for (int number : new int[] {3, 81, 0, 81, 0, 0, 0, -1}) {
            d = d * 31 + number;
        }
        for (int place = 0; place < 4; place++) {
            d = (((d * 31 - 1) * 31 + 27) * 31 + 27) * 31 + 27;
        }
        for (int code = 0; code < 81; code++) {
            d = d * 31 + code;
        }
        due("digest() of a new object", new HiddenCandles().digest(), d);
    }
}
