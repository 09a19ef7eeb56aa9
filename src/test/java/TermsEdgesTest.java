import java.util.Arrays;

/** The boundary cases that the document's Terms name, parts 1 and 2, a test for each sentence. */
public final class TermsEdgesTest {
    private static final int MOST = Squares.MOST;
    private static final Due T = new Due();

    public static void main(String[] args) {
        numberedFromZero();
        setsByBits();
        noneAndRefusals();
        numbersOfASquare();
        areaOfASquare();
        multipliedRowsByColumns();
        byBackIsTheOne();
        shelfOfTwelve();
        laterOnesHaveOneLess();
        textOfSixty();
        emptyIsTheOne();
        lettersWritten();
        anotherLetter();
        lettersOutOfBounds();
        firstLetterWithAFault();
        kindsByTrace();
        shiftIsNotTheOne();
        signs();
        orders();
        roundOnes();
        shiftsByN();
        stretchesTurned();
        stretchesCarried();
        wheelTurnedByTwo();
        wheelIsTheLeast();
        wheelOfTheChanged();
        wheelsLongest();
        times();
        twins();
        T.end();
    }

    // ---- ahead of the parts

    private static void numberedFromZero() {
        T.sentence("What has a number has it from 0 on.");
        MatrixKin x = new MatrixKin();
        T.due("the first letter", Due.write(x, "?") == -11 ? x.fault() : MatrixKin.NOT, 0);
        T.due("the first square", Due.write(x, "RRL"), 0);
        T.due("the second square", Due.write(x, "RLL"), 1);
        T.due("the first run", x.run(0, 0), 2);
        T.due("the first entry", x.note(0, 1, true) == 1 ? x.told(6) : MatrixKin.NOT, 0);
        T.due("the first image", x.keep(0), 1);
    }

    private static void setsByBits() {
        T.sentence("A SET is a whole number, bit k for k.");
        MatrixKin x = Squares.full();
        for (int s = 0; s < 12; s++) {
            T.due("alone " + s, x.square(s, 8), 1 << s);
        }
        x.raise(11, 0);
        x.raise(0, 0);
        T.due("the first and the last", x.square(0, 8), 0b100000000001);
        T.due("the last and the first", x.square(11, 8), 0b100000000001);
        T.due("as the greatest", x.told(3), 0b100000000001);
        for (int s = 1; s < 11; s++) {
            x.raise(s, 0);
        }
        T.due("all twelve", x.square(5, 8), 4095);
        T.due("all twelve as the greatest", x.told(3), 4095);
    }

    private static void noneAndRefusals() {
        T.sentence("NONE is -1. REFUSALS .. -1000000001 and on.");
        T.due("NONE", MatrixKin.NONE, -1);
        T.due("UNKNOWN", MatrixKin.UNKNOWN, -1000000001);
        T.due("OUTSIDE", MatrixKin.OUTSIDE, -1000000002);
        T.due("NOT", MatrixKin.NOT, -1000000003);
        T.due("FULL", MatrixKin.FULL, -1000000004);
    }

    // ---- 1

    /** With a d less b c 1, so that the bounds alone decide. */
    private static int[] withNumberAt(int place, int n) {
        int[][] squares = {{n, -1, 1, 0}, {1, n, 0, 1}, {1, 0, n, 1}, {0, -1, 1, n}};
        return squares[place];
    }

    private static void numbersOfASquare() {
        T.sentence("A SQUARE is four numbers a, b, c, d (-1000000 .. 1000000) with a d less b c 1");
        for (int place = 0; place < 4; place++) {
            for (int sign = -1; sign <= 1; sign += 2) {
                MatrixKin x = new MatrixKin();
                int[] last = withNumberAt(place, sign * MOST);
                String name = "number " + place + ", side " + sign;
                T.due("the last one, " + name, Squares.put(x, last), 0);
                T.holds("as it was put, " + name, Squares.isAt(x, 0, last));
                T.due("the first outside, " + name, Squares.put(x, withNumberAt(place, sign * (MOST + 1))), MatrixKin.OUTSIDE);
                int farthest = sign < 0 ? Integer.MIN_VALUE : Integer.MAX_VALUE;
                T.due("the farthest, " + name, Squares.put(x, withNumberAt(place, farthest)), MatrixKin.OUTSIDE);
                T.due("one alone, " + name, x.told(0), 1);
            }
        }
    }

    private static void areaOfASquare() {
        T.sentence("a d less b c 1: a, b above, c, d below");
        MatrixKin x = new MatrixKin();
        T.due("1", x.put(2, 3, 3, 5), 0);
        T.due("0", x.put(2, 2, 3, 3), MatrixKin.NOT);
        T.due("2", x.put(2, 2, 3, 4), MatrixKin.NOT);
        T.due("-1", x.put(3, 2, 5, 3), MatrixKin.NOT);
        T.due("all 0", x.put(0, 0, 0, 0), MatrixKin.NOT);
        T.due("1 left over by 2 to the 32, by a d", x.put(65536, 1, -1, 65536), MatrixKin.NOT);
        T.due("1 left over by 2 to the 32, by b c", x.put(1, 65536, 65536, 1), MatrixKin.NOT);
        T.due("2 times 10 to the 12", x.put(MOST, -MOST, MOST, MOST), MatrixKin.NOT);
        T.due("less than -10 to the 12", x.put(MOST, MOST, MOST, -MOST), MatrixKin.NOT);
        T.due("1, of great numbers", x.put(999999, MOST, 999998, 999999), 1);
    }

    private static void multipliedRowsByColumns() {
        T.sentence("Two MULTIPLIED, A by B: .. (rows by columns)");
        MatrixKin x = Squares.holding(new int[] {2, 3, 5, 8}, new int[] {7, 4, 12, 7});
        x.multiply(0, 1);
        x.multiply(1, 0);
        T.holds("A by B", Due.isSquare(x, 2, 50, 29, 131, 76));
        T.holds("B by A", Due.isSquare(x, 3, 34, 53, 59, 92));
    }

    private static void byBackIsTheOne() {
        T.sentence("BACK of A: d, -b, -c, a (A by BACK is THE ONE).");
        int[][] squares = {{7, 4, 12, 7}, {MOST, 999999, 1, 1}, {-MOST, 1, -1, 0}, {1, -MOST, 0, 1}, {0, -1, 1, 0}};
        for (int[] q : squares) {
            MatrixKin x = Squares.holding(q, q);
            x.back(1);
            String name = Arrays.toString(q);
            T.holds("BACK of " + name, Due.isSquare(x, 1, q[3], -q[1], -q[2], q[0]));
            x.multiply(0, 1);
            x.multiply(1, 0);
            T.holds("by BACK of " + name, Squares.isAt(x, 2, Squares.ONE));
            T.holds("BACK by it, of " + name, Squares.isAt(x, 3, Squares.ONE));
        }
    }

    private static void shelfOfTwelve() {
        T.sentence("THE SHELF holds SQUARES (12 at most), numbered as they came");
        MatrixKin x = new MatrixKin();
        for (int s = 0; s < 11; s++) {
            x.put(1, s, 0, 1);
        }
        T.due("the twelfth put", x.put(1, 11, 0, 1), 11);
        T.due("no thirteenth put", x.put(1, 12, 0, 1), MatrixKin.FULL);
        x.take(11);
        T.due("the twelfth written", x.write(), 11);
        T.due("no thirteenth written", x.write(), MatrixKin.FULL);
        x.take(11);
        T.due("the twelfth by multiplying", x.multiply(0, 0), 11);
        T.due("no thirteenth by multiplying", x.multiply(0, 0), MatrixKin.FULL);
        x.take(11);
        T.due("the twelfth by draws", x.drift(1), 12);
        T.due("no thirteenth by draws", x.drift(1), 12);
        for (int s = 0; s < 11; s++) {
            T.holds("as it came " + s, Due.isSquare(x, s, 1, s, 0, 1));
        }
        T.due("there is no thirteenth", x.number(12, 0), MatrixKin.UNKNOWN);
    }

    private static void laterOnesHaveOneLess() {
        T.sentence("if one goes, later ones have one number less");
        for (int gone = 0; gone < 12; gone++) {
            MatrixKin x = Squares.full();
            T.due("left without " + gone, x.take(gone), 11);
            for (int s = 0; s < 11; s++) {
                T.holds("number " + s + " without " + gone, Due.isSquare(x, s, 1, s < gone ? s + 1 : s + 2, 0, 1));
            }
            T.due("no twelfth without " + gone, x.number(11, 0), MatrixKin.UNKNOWN);
        }
    }

    private static void textOfSixty() {
        T.sentence("WRITTEN: a text (60 letters at most)");
        MatrixKin x = new MatrixKin();
        Due.feed(x, "R".repeat(59));
        T.due("the sixtieth", x.feed('R'), 60);
        T.due("no more", x.feed('R'), MatrixKin.FULL);
        T.due("all sixty are written", x.write(), 0);
        T.holds("R sixty times", Due.isSquare(x, 0, 1, 60, 0, 1));
        T.due("room again", x.feed('R'), 1);
    }

    private static void emptyIsTheOne() {
        T.sentence("(empty: THE ONE)");
        MatrixKin x = new MatrixKin();
        T.due("written", x.write(), 0);
        T.holds("THE ONE", Squares.isAt(x, 0, Squares.ONE));
        T.due("no fault", x.fault(), MatrixKin.NONE);
        Due.write(x, "RLS");
        T.due("written behind another text", x.write(), 2);
        T.holds("THE ONE again", Squares.isAt(x, 2, Squares.ONE));
    }

    private static void lettersWritten() {
        T.sentence("of the letters R .., L .., r, l (BACK of these), S .., s (BACK of it), multiplied from the left to the right");
        String[] texts = {"R", "L", "r", "l", "S", "s", "RS", "SR", "Ls", "sL"};
        int[][] want = {{1, 1, 0, 1}, {1, 0, 1, 1}, {1, -1, 0, 1}, {1, 0, -1, 1}, {0, -1, 1, 0}, {0, 1, -1, 0},
            {1, -1, 1, 0}, {0, -1, 1, 1}, {0, 1, -1, 1}, {1, 1, -1, 0}};
        for (int i = 0; i < texts.length; i++) {
            T.holds(texts[i], Squares.isAt(Squares.written(texts[i]), 0, want[i]));
        }
        for (String two : new String[] {"Rr", "rR", "Ll", "lL", "Ss", "sS", "SSSS", "ssss"}) {
            T.holds(two + " is THE ONE", Squares.isAt(Squares.written(two), 0, Squares.ONE));
        }
        T.holds("SS is THE ONE CHANGED", Squares.isAt(Squares.written("SS"), 0, Squares.ONE_CHANGED));
        for (int i = 0; i < 216; i++) {
            String[] three = {letter(i), letter(i / 6), letter(i / 36)};
            MatrixKin x = Squares.written(three);
            x.multiply(0, 1);
            x.multiply(3, 2);
            Due.write(x, String.join("", three));
            for (int place = 0; place < 4; place++) {
                T.due("number " + place + " of " + String.join("", three), x.number(5, place), x.number(4, place));
            }
        }
    }

    private static String letter(int i) {
        return "RLrlSs".substring(i % 6, i % 6 + 1);
    }

    private static void anotherLetter() {
        T.sentence("FAULTS .. 1 another letter.");
        for (int letter = 0; letter <= 255; letter++) {
            MatrixKin x = new MatrixKin();
            x.feed('L');
            x.feed(letter);
            boolean isOne = "RLrlSs".indexOf(letter) >= 0;
            T.due("letter " + letter, x.write(), isOne ? 0 : -11);
            T.due("fault of letter " + letter, x.fault(), isOne ? MatrixKin.NONE : 1);
        }
    }

    private static void lettersOutOfBounds() {
        T.sentence("2 a letter by which a number of what was multiplied so far is out of its bounds");
        for (int place = 0; place < 4; place++) {
            for (String ahead : new String[] {"", "SS"}) {
                int[] last = Squares.withGreatest(MOST, place);
                String within = ahead + Squares.letters(last);
                String beyond = ahead + Squares.letters(Squares.withGreatest(MOST + 1, place));
                MatrixKin x = new MatrixKin();
                T.due("1000000 by " + within, Due.write(x, within), 0);
                T.holds("numbers of " + within, Squares.isAt(x, 0, ahead.isEmpty() ? last : Squares.changed(last)));
                T.due("1000001 by " + beyond, Due.write(x, beyond), -12);
                T.due("the last letter of " + beyond, x.fault(), beyond.length() - 1);
                T.due("all but the last of " + beyond, Due.write(x, beyond.substring(0, beyond.length() - 1)), 1);
            }
        }
    }

    private static void firstLetterWithAFault() {
        T.sentence("FAULTS, at the first letter that has one");
        String far = "RL".repeat(15);
        MatrixKin x = new MatrixKin();
        T.due("out of bounds ahead of another letter", Due.write(x, far + "?"), -12);
        T.due("its place", x.fault(), 29);
        T.due("another letter ahead of out of bounds", Due.write(x, "?" + far), -11);
        T.due("its place", x.fault(), 0);
        T.due("another letter just ahead", Due.write(x, far.substring(0, 29) + "?" + far), -11);
        T.due("its place", x.fault(), 29);
        T.due("two other letters", Due.write(x, "RL?R!"), -11);
        T.due("the first of them", x.fault(), 2);
        T.due("out of bounds and in again", Due.write(x, far + "l".repeat(30)), -12);
        T.due("its place", x.fault(), 29);
        T.due("in again in the end", Due.write(x, far.substring(0, 29) + "rlrl"), 0);
        T.due("the sixtieth letter", Due.write(x, "R".repeat(59) + "?"), -11);
        T.due("its place", x.fault(), 59);
    }

    // ---- 2

    private static void kindsByTrace() {
        T.sentence("KINDS: .. 1 ROUND: TRACE -1, 0 or 1; 2 SHIFT: TRACE 2 or -2, but not 0; 3 STRETCH: all others.");
        for (int trace = -4; trace <= 4; trace++) {
            MatrixKin x = Squares.holding(new int[] {trace, -1, 1, 0}, new int[] {3, 3 * (trace - 3) - 1, 1, trace - 3});
            int kind = Math.abs(trace) < 2 ? 1 : Math.abs(trace) == 2 ? 2 : 3;
            T.due("KIND with TRACE " + trace, x.square(0, 0), kind);
            T.due("KIND of another with TRACE " + trace, x.square(1, 0), kind);
            T.due("TRACE " + trace, x.square(0, 1), trace + 2000000);
        }
        T.sentence("TRACE: a and d together.");
        MatrixKin x = Squares.holding(new int[] {999999, MOST, 999998, 999999}, new int[] {-999999, -MOST, -999998, -999999});
        T.due("the greatest that a SQUARE has", x.square(0, 1), 3999998);
        T.due("the least that a SQUARE has", x.square(1, 1), 2);
        T.due("KIND with the greatest", x.square(0, 0), 3);
        T.due("KIND with the least", x.square(1, 0), 3);
        T.due("RUNS with the greatest", x.run(0, 0) + 10L * x.run(0, 1), 2 + 9999980);
        T.due("RUNS with the least", x.run(1, 0) + 10L * x.run(1, 1), 2 + 9999980);
    }

    private static void shiftIsNotTheOne() {
        T.sentence("0 THE ONE, or it CHANGED; .. 2 SHIFT: TRACE 2 or -2, but not 0");
        int[][] squares = {{1, 0, 0, 1}, {-1, 0, 0, -1}, {1, 1, 0, 1}, {1, 0, 1, 1}, {1, -1, 0, 1}, {1, 0, -1, 1},
            {-1, 1, 0, -1}, {-1, 0, 1, -1}, {3, 4, -1, -1}, {-3, 4, -1, 1}};
        for (int i = 0; i < squares.length; i++) {
            MatrixKin x = Squares.holding(squares[i]);
            T.due("KIND of " + Arrays.toString(squares[i]), x.square(0, 0), i < 2 ? 0 : 2);
            T.due("no BY of " + Arrays.toString(squares[i]), x.square(0, 4) == 0 ? 1 : 0, i < 2 ? 1 : 0);
        }
    }

    private static void signs() {
        T.sentence("SIGN: 1, -1 for TRACE above, below 0; for TRACE 0: 1.");
        for (int trace = -3; trace <= 3; trace++) {
            MatrixKin x = Squares.holding(new int[] {trace, -1, 1, 0});
            T.due("SIGN and 1 with TRACE " + trace, x.square(0, 2), trace < 0 ? 0 : 2);
        }
    }

    private static void orders() {
        T.sentence("ORDER: how many times A must be multiplied by itself till it is THE ONE (1 for itself); NONE: it never is.");
        int[][] comingRound = {{1, 0, 0, 1}, {-1, 0, 0, -1}, {0, -1, 1, -1}, {5, -26, 1, -5}, {999, -998002, 1, -999}, {0, 1, -1, 1}};
        int[] want = {1, 2, 3, 4, 4, 6};
        for (int i = 0; i < want.length; i++) {
            String name = Arrays.toString(comingRound[i]);
            T.due("ORDER of " + name, Squares.holding(comingRound[i]).square(0, 3), want[i]);
            for (int n = 1; n <= want[i]; n++) {
                MatrixKin x = Squares.holding(comingRound[i]);
                x.raise(0, n);
                T.holds(name + " " + n + " times", Squares.isAt(x, 0, Squares.ONE) == (n == want[i]));
            }
        }
        int[][] never = {{1, 1, 0, 1}, {-1, 0, 1, -1}, {2, 1, 1, 1}, {-2, 1, 1, -1}, {3, -1, 1, 0}, {-3, -1, 1, 0}};
        for (int[] q : never) {
            T.due("ORDER of " + Arrays.toString(q), Squares.holding(q).square(0, 3), MatrixKin.NONE);
        }
    }

    private static void roundOnes() {
        T.sentence("Two ROUND ones are ALIKE, if they have the same TRACE, and c has the same sign in both.");
        for (int trace = -1; trace <= 1; trace++) {
            for (int other = -1; other <= 1; other++) {
                int[] near = {0, -1, 1, trace};
                int[] far = {7, 7 * (other - 7) - 1, 1, other - 7};
                int[] turned = {7, 1 - 7 * (other - 7), -1, other - 7};
                MatrixKin x = Squares.holding(near, far, turned);
                T.due("TRACE " + trace + ", " + other, x.pair(0, 1, 0), trace == other ? 1 : 0);
                T.due("TRACE " + trace + ", " + other + ", the other sign", x.pair(0, 2, 0), 0);
            }
        }
    }

    private static void shiftsByN() {
        T.sentence("A SHIFT is ALIKE to just one 1, n, 0, 1, or to one such CHANGED (then TRACE is -2): n is BY (other than 0).");
        int[] ns = {1, -1, 2, -2, 999999, -999999, MOST, -MOST};
        for (int n : ns) {
            MatrixKin x = Squares.holding(Squares.shift(n), Squares.changed(Squares.shift(n)), new int[] {1, 0, -n, 1},
                new int[] {-1, 0, n, -1}, Squares.shift(-n));
            for (int s = 0; s < 4; s++) {
                T.due("BY " + n + " of " + s, x.square(s, 4), 3000000 + n);
            }
            T.due("the family of 0 by " + n, x.square(0, 8), 0b101);
            T.due("the family of 1 by " + n, x.square(1, 8), 0b1010);
            T.due("BY the other way " + n, x.square(4, 4), 3000000 - n);
        }
        MatrixKin slanted = Squares.holding(Squares.slantedShift(999999), new int[] {-999, MOST, -1, 1001},
            new int[] {-41, 28, -63, 43}, new int[] {43, 63, -28, -41}, new int[] {43, -28, 63, -41}, new int[] {41, -28, 63, -43});
        int[] by = {999999, 1, 7, 7, -7, 7};
        for (int s = 0; s < by.length; s++) {
            T.due("slanted " + s, slanted.square(s, 4), 3000000 + by[s]);
        }
    }

    private static void stretchesTurned() {
        T.sentence("just to those that are one of them, and all that come of it by taking letters from its beginning to its end");
        String text = "RRRLRLL";
        for (int by = 0; by < text.length(); by++) {
            String turned = text.substring(by) + text.substring(0, by);
            MatrixKin x = Squares.written(text, turned, new StringBuilder(turned).reverse().toString(), "SS" + turned);
            T.due("turned by " + by, x.pair(0, 1, 0), 1);
            T.due("read from behind " + by, x.pair(0, 2, 0), 0);
            T.due("CHANGED " + by, x.pair(0, 3, 0), 0);
            T.due("TRACE of it read from behind " + by, x.square(2, 1), x.square(0, 1));
        }
        MatrixKin x = Squares.holding(new int[] {14, 13, 1, 1}, new int[] {13, 5, 5, 2}, new int[] {1, 1, 13, 14});
        for (int s = 0; s < 3; s++) {
            T.due("the same TRACE, another WHEEL: TRACE of " + s, x.square(s, 1), 2000015);
            T.due("the same TRACE, another WHEEL: FAMILY of " + s, x.square(s, 8), 1 << s);
        }
    }

    private static void stretchesCarried() {
        T.sentence("A and B, if there is a square C of whole numbers (any) .. and C by A is B by C");
        String[] carriers = {"R", "L", "r", "l", "S", "RRRRRRRR", "llllllll", "RLrSLL", "SRSRRSRRRS", "rrrLLLrrr", "sLLLLLsRRR"};
        for (String text : new String[] {"RL", "RRL", "RLL", "RRRLRLL", "RLRRLL", "SSRRLRL"}) {
            for (String carrier : carriers) {
                MatrixKin x = Squares.written(text, text, carrier);
                T.holds(text + " is carried over by " + carrier, x.carry(1, 2) >= 0);
                T.due(text + " carried over by " + carrier + " is ALIKE", x.pair(0, 1, 0), 1);
                T.due("RUNS of " + text + " by " + carrier, x.square(1, 5), x.square(0, 5));
                for (int k = 0; k < 6; k++) {
                    T.due("run " + k + " of " + text + " by " + carrier, x.run(1, k), x.run(0, k));
                }
            }
        }
        for (int k : new int[] {998, 999, -996, -997}) {
            // R R L carried over by R k times.
            int[] q = {3 + k, 2 - 2 * k - k * k, 1, 1 - k};
            runs("2 1 carried over by R " + k + " times", Squares.holding(q), 2, 1);
            runs("the same, from the other corner", Squares.holding(new int[] {q[3], -q[2], -q[1], q[0]}), 2, 1);
        }
    }

    private static void runs(String name, MatrixKin x, int... want) {
        T.due("RUNS of " + name, x.square(0, 5), want.length);
        int letters = 0;
        for (int k = 0; k < want.length; k++) {
            T.due("run " + k + " of " + name, x.run(0, k), want[k]);
            letters += want[k];
        }
        T.due("behind the last of " + name, x.run(0, want.length), MatrixKin.NONE);
        T.due("letters of " + name, x.square(0, 10), letters);
    }

    private static void wheelTurnedByTwo() {
        T.sentence("beginning with R, as a row of numbers, so turned (by two RUNS at a time)");
        for (String text : new String[] {"RRL", "RLR", "LRR"}) {
            runs(text, Squares.written(text), 2, 1);
        }
        for (String text : new String[] {"RLL", "LLR", "LRL"}) {
            runs(text, Squares.written(text), 1, 2);
        }
        runs("3 1 2 2", Squares.written("RRRLRRLL"), 2, 2, 3, 1);
    }

    private static void wheelIsTheLeast() {
        T.sentence("that it is the least: the first number that differs is less");
        runs("by the first number", Squares.written("RRLRLLL"), 1, 3, 2, 1);
        runs("by the second number", Squares.written("RLLLRLL"), 1, 2, 1, 3);
        runs("by the third number", Squares.written("RLRRLRL"), 1, 1, 1, 1, 2, 1);
        runs("by the fourth number", Squares.written("RLRLLRLRL"), 1, 1, 1, 1, 1, 1, 1, 2);
        runs("by the last but one", Squares.written("RRLRLRRLRLRLRL"), 1, 1, 1, 1, 1, 1, 2, 1, 1, 1, 2, 1);
        String text = "RLRLLRRRLRRL";
        for (int by = 0; by < text.length(); by++) {
            runs("turned by " + by, Squares.written(text.substring(by) + text.substring(0, by)), 1, 1, 1, 2, 3, 1, 2, 1);
        }
        runs("numbers, not digits", Squares.holding(new int[] {133, 12, 11, 1}), 12, 11);
        runs("9 ahead of 10", Squares.written("R".repeat(10) + "L" + "R".repeat(9) + "L"), 9, 1, 10, 1);
    }

    private static void wheelOfTheChanged() {
        T.sentence("That of a STRETCH with TRACE below 0: the WHEEL of it CHANGED.");
        runs("2 1 CHANGED", Squares.holding(new int[] {-3, -2, -1, -1}), 2, 1);
        runs("TRACE -3", Squares.holding(new int[] {-3, -1, 1, 0}), 1, 1);
        runs("TRACE 3", Squares.holding(new int[] {3, -1, 1, 0}), 1, 1);
        runs("1 2 CHANGED", Squares.written("ssRLL"), 1, 2);
    }

    private static void wheelsLongest() {
        T.sentence("each 1 at least");
        int[] ones = new int[28];
        Arrays.fill(ones, 1);
        runs("the most RUNS that a SQUARE has", Squares.written("RL".repeat(14)), ones);
        T.due("one pair more has no room", Due.write(new MatrixKin(), "RL".repeat(15)), -12);
        runs("the longest run of R", Squares.holding(new int[] {MOST, 999999, 1, 1}), 999999, 1);
        runs("the longest run of L", Squares.holding(new int[] {1, 1, 999999, MOST}), 1, 999999);
    }

    private static void times() {
        T.sentence("TIMES: how often a row comes one behind the other in the WHEEL (the most).");
        for (int n = 1; n <= 14; n++) {
            T.due("RL " + n + " times", Squares.written("RL".repeat(n)).square(0, 6), n);
        }
        T.due("six times, not two or three", Squares.written("RRL".repeat(6)).square(0, 6), 6);
        T.due("all but once", Squares.written("RRLRRLRRLL").square(0, 6), 1);
        T.due("by a row of four RUNS", Squares.written("RLRRLRLRRL").square(0, 6), 2);
        T.due("a row begins with R", Squares.written("RLLRRRLRRLLL").square(0, 6), 1);
        T.due("turned within a run", Squares.written("LRRLLRRLLRRL").square(0, 6), 3);
        T.due("TRACE below 0", Squares.written("SSRLRLRL").square(0, 6), 3);
    }

    private static void twins() {
        T.sentence("TWINS: ALIKE to its own BACK.");
        String[] twins = {"", "SS", "RL", "RRLL", "RLRRLL", "SSRL"};
        String[] none = {"R", "SSl", "S", "s", "RS", "RRL", "RLL", "RRLRRL"};
        for (String text : twins) {
            T.due("TWINS " + text, Squares.written(text).square(0, 7), 1);
        }
        for (String text : none) {
            T.due("not TWINS " + text, Squares.written(text).square(0, 7), 0);
        }
    }
}
