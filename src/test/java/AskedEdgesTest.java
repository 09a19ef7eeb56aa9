/** The boundary cases that part 3 of the Terms and promises 17 to 22 name, a test for each sentence. */
public final class AskedEdgesTest {
    private static final int MOST = Squares.MOST;
    private static final int LOW = Integer.MIN_VALUE;
    private static final int HIGH = Integer.MAX_VALUE;
    // What answer() below numbers: told(), square(), pair(), run().
    private static final int ASKED = 8 + 11 + 3 + 2;
    private static final Due T = new Due();

    public static void main(String[] args) {
        families();
        familyOfASquare();
        askedFirst();
        otherOneInItsPlace();
        pairSame();
        pairWhats();
        pairUnknown();
        goTogether();
        beginsAtLeast();
        beginsEachTurn();
        beginsFarthest();
        beginsNone();
        noteTwenty();
        noteUnknown();
        wrongFirst();
        wrongNow();
        wrongNoMore();
        tearAll();
        seedBounds();
        keepBounds();
        keepWhatIsSo();
        keepAnew();
        goBackBounds();
        goBackNotKept();
        goBackOrder();
        goBackToNone();
        imagesKeepNoMore();
        nothingCanBeUndone();
        lastCall();
        T.end();
    }

    // ---- 3

    private static void families() {
        T.sentence("FAMILIES: how many SQUARES of THE SHELF are unlike, one of each that are ALIKE");
        T.due("none", new MatrixKin().told(2), 0);
        T.due("one", Squares.written("R").told(2), 1);
        T.due("twelve unlike", Squares.full().told(2), 12);
        MatrixKin x = new MatrixKin();
        for (int s = 0; s < 12; s++) {
            Due.write(x, s % 2 == 0 ? "RRL" : "RLL");
        }
        T.due("six and six", x.told(2), 2);
        MatrixKin like = new MatrixKin();
        for (int s = 0; s < 12; s++) {
            like.put(1, 5, 0, 1);
        }
        T.due("twelve ALIKE", like.told(2), 1);
    }

    private static void familyOfASquare() {
        T.sentence("FAMILY of a SQUARE: all that are ALIKE to it (a SET)");
        MatrixKin x = Squares.written("RRL", "R", "LRR", "l", "", "RLR", "SSRRL");
        int[] want = {0b100101, 0b1010, 0b100101, 0b1010, 0b10000, 0b100101, 0b1000000};
        for (int s = 0; s < want.length; s++) {
            T.due("FAMILY of " + s, x.square(s, 8), want[s]);
        }
        x.take(0);
        T.due("with one number less", x.square(1, 8), 0b10010);
    }

    /** Of the square 0: all that is told, all of it, all of it and square 1, its first two runs. */
    private static int answer(MatrixKin x, int number) {
        if (number < 8) {
            return x.told(number);
        }
        if (number < 19) {
            return x.square(0, number - 8);
        }
        return number < 22 ? x.pair(0, 1, number - 19) : x.run(0, number - 22);
    }

    private static void askedFirst() {
        T.sentence("ASKED, nothing changes by it. (the answer is the same, whatever was asked ahead of it)");
        String[] texts = {"RRLRL", "RLRRL", "RRLRL", "S", "RL"};
        for (int last = 0; last < ASKED; last++) {
            MatrixKin x = Squares.written(texts);
            x.note(0, 1, true);
            x.note(0, 3, true);
            int alone = answer(x, last);
            MatrixKin y = Squares.written(texts);
            y.note(0, 1, true);
            y.note(0, 3, true);
            for (int other = ASKED - 1; other >= 0; other--) {
                answer(y, other);
            }
            T.due("asked alone and behind all others, " + last, alone, answer(y, last));
        }
        T.due("TWINS asked alone", Squares.written("RL", "S", "RRLL", "R").told(4), 2);
        T.due("FAMILIES asked alone", Squares.written("RL", "S", "LR", "R").told(2), 3);
        T.due("GREATEST asked alone", Squares.written("S", "RL", "LR", "R").told(3), 0b110);
    }

    private static void otherOneInItsPlace() {
        T.sentence("numbered as they came; if one goes, later ones have one number less (asked of the one that is there now)");
        String[] texts = {"RRLRL", "RLRRL", "RRRLRLL", "R", "RLRLRLRL", "S", "RLRRLRRRL", "SSRL", "", "RRRLRRLRL", "RLL"};
        MatrixKin x = new MatrixKin();
        for (String text : texts) {
            Due.write(x, text);
            MatrixKin alone = Squares.written(text);
            for (int what = 0; what < 11; what++) {
                T.due("square(0, " + what + ") of " + text, x.square(0, what), alone.square(0, what));
            }
            for (int k = 0; k < 8; k++) {
                T.due("run(0, " + k + ") of " + text, x.run(0, k), alone.run(0, k));
            }
            x.take(0);
        }
    }

    // ---- 17

    private static void pairSame() {
        T.sentence("Promise 17: Of two SQUARES (perhaps the same)");
        MatrixKin x = Squares.written("RRL", "R", "S", "", "SSRL");
        for (int s = 0; s < 5; s++) {
            T.due("ALIKE " + s, x.pair(s, s, 0), 1);
            T.due("GO TOGETHER " + s, x.pair(s, s, 1), 1);
            T.due("BEGINS " + s, x.pair(s, s, 2), s == 0 ? 0 : MatrixKin.NONE);
        }
    }

    private static void pairWhats() {
        T.sentence("Promise 17: what = 0 they are ALIKE, 1 GO TOGETHER (1, 0), 2 BEGINS (NONE: not such ones). .. OUTSIDE");
        MatrixKin x = Squares.written("RRL", "LRR");
        int[] want = {1, 0, 2};
        for (int what = 0; what < 3; what++) {
            T.due("pair(0, 1, " + what + ")", x.pair(0, 1, what), want[what]);
        }
        for (int what : new int[] {-1, 3, LOW, HIGH}) {
            T.due("pair(0, 1, " + what + ")", x.pair(0, 1, what), MatrixKin.OUTSIDE);
        }
    }

    private static void pairUnknown() {
        T.sentence("Promise 17: UNKNOWN, OUTSIDE.");
        MatrixKin x = Squares.written("RL", "RL");
        for (int s : new int[] {-1, 2, 12, LOW, HIGH}) {
            for (int what : new int[] {0, 1, 2, -1, 3}) {
                T.due("pair(" + s + ", 0, " + what + ")", x.pair(s, 0, what), MatrixKin.UNKNOWN);
                T.due("pair(0, " + s + ", " + what + ")", x.pair(0, s, what), MatrixKin.UNKNOWN);
                T.due("pair(" + s + ", " + s + ", " + what + ")", x.pair(s, s, what), MatrixKin.UNKNOWN);
            }
        }
        T.due("the last one", x.pair(1, 0, 0), 1);
    }

    private static void goTogether() {
        T.sentence("GO TOGETHER: A by B is B by A.");
        MatrixKin x = Squares.holding(new int[] {999999, MOST, 999998, 999999}, new int[] {999999, -MOST, -999998, 999999},
            new int[] {999999, 999998, MOST, 999999}, Squares.ONE, Squares.ONE_CHANGED);
        T.due("far out of bounds, by itself", x.pair(0, 0, 1), 1);
        T.due("far out of bounds, by its BACK", x.pair(0, 1, 1), 1);
        T.due("far out of bounds, by another", x.pair(0, 2, 1), 0);
        for (int s = 0; s < 5; s++) {
            T.due("THE ONE and " + s, x.pair(3, s, 1), 1);
            T.due("THE ONE CHANGED and " + s, x.pair(s, 4, 1), 1);
        }
        MatrixKin near = Squares.holding(Squares.shift(5), Squares.shift(-7), new int[] {1, 0, 5, 1}, Squares.changed(Squares.shift(2)));
        T.due("along one line", near.pair(0, 1, 1), 1);
        T.due("along one line, CHANGED", near.pair(0, 3, 1), 1);
        T.due("along two lines", near.pair(0, 2, 1), 0);
    }

    private static void beginsAtLeast() {
        T.sentence("BEGINS: .. by how many letters at least the one must be turned .. to be the other");
        MatrixKin x = Squares.written("RLRLRL", "LRLRLR", "RRLRRL", "RLRRLR", "LRRLRR");
        T.due("not at all", x.pair(0, 0, 2), 0);
        T.due("once, not three or five times", x.pair(0, 1, 2), 1);
        T.due("once back", x.pair(1, 0, 2), 1);
        T.due("once of three", x.pair(2, 3, 2), 1);
        T.due("twice of three", x.pair(2, 4, 2), 2);
        T.due("from the third on", x.pair(4, 2, 2), 1);
        T.due("the one, the other", x.pair(3, 2, 2), 2);
    }

    private static void beginsEachTurn() {
        T.sentence("(letters from its beginning to its end)");
        for (String text : new String[] {"RRRLLRL", "LLLLR", "RL", "RRLLRRL", "LRRRRRRLL"}) {
            for (int by = 0; by < text.length(); by++) {
                MatrixKin x = Squares.written(text, text.substring(by) + text.substring(0, by));
                T.due(text + " turned by " + by, x.pair(0, 1, 2), by);
                T.due(text + " turned back by " + by, x.pair(1, 0, 2), by == 0 ? 0 : text.length() - by);
            }
        }
    }

    private static void beginsFarthest() {
        T.sentence("BEGINS: .. by how many letters at least (the most that there are)");
        MatrixKin x = Squares.holding(new int[] {MOST, 999999, 1, 1}, new int[] {1, 999999, 1, MOST},
            new int[] {MOST, 1, 999999, 1}, new int[] {1, 1, 999999, MOST});
        T.due("all R", x.pair(0, 1, 2), 999999);
        T.due("the L", x.pair(1, 0, 2), 1);
        T.due("the R", x.pair(2, 3, 2), 1);
        T.due("all L", x.pair(3, 2, 2), 999999);
        T.due("another WHEEL", x.pair(0, 2, 2), MatrixKin.NONE);
        String most = "RL".repeat(14);
        MatrixKin y = Squares.written("RR" + most.substring(2, 26), most.substring(2, 26) + "RR", "R" + most.substring(2, 26) + "R");
        T.due("through many RUNS", y.pair(0, 1, 2), 2);
        T.due("through many RUNS and back", y.pair(1, 0, 2), 24);
        T.due("into a run", y.pair(1, 2, 2), 25);
    }

    private static void beginsNone() {
        T.sentence("BEGINS: for two STRETCHES that are products of R and L (no number below 0) and ALIKE .. (NONE: not such ones)");
        MatrixKin x = Squares.written("RRL", "RLL", "SSRRL", "SRRLs", "R", "RR", "", "rrl", "RRRLLRL", "LLRRRLR", "LLR");
        T.due("not ALIKE", x.pair(0, 1, 2), MatrixKin.NONE);
        T.due("not ALIKE, the same TRACE", x.pair(8, 9, 2), MatrixKin.NONE);
        T.due("CHANGED", x.pair(2, 2, 2), MatrixKin.NONE);
        T.due("CHANGED and not", x.pair(2, 0, 2), MatrixKin.NONE);
        T.due("a number below 0 in the second", x.pair(0, 3, 2), MatrixKin.NONE);
        T.due("a number below 0 in the first", x.pair(3, 0, 2), MatrixKin.NONE);
        T.due("a number below 0 in both", x.pair(3, 3, 2), MatrixKin.NONE);
        T.due("SHIFTS", x.pair(4, 4, 2), MatrixKin.NONE);
        T.due("two SHIFTS", x.pair(4, 5, 2), MatrixKin.NONE);
        T.due("THE ONE", x.pair(6, 6, 2), MatrixKin.NONE);
        T.due("a SHIFT and a STRETCH", x.pair(4, 0, 2), MatrixKin.NONE);
        T.due("products of r and l", x.pair(7, 7, 2), MatrixKin.NONE);
        T.due("such ones", x.pair(1, 10, 2), 1);
        T.due("another TRACE", Squares.written("RL", "RRL").pair(0, 1, 2), MatrixKin.NONE);
        T.due("another TRACE, the other way", Squares.written("RL", "RRL").pair(1, 0, 2), MatrixKin.NONE);
        int[][] below = {{3, -1, 1, 0}, {3, 1, -1, 0}, {0, -1, 1, 3}, {0, 1, -1, 3}, {-1, 1, -5, 4}, {-1, -5, 1, 4},
            {4, 1, -5, -1}, {4, -5, 1, -1}, {1, -1, -1, 2}, {2, -1, -1, 1}, {-2, -1, -1, -1}};
        for (int[] q : below) {
            MatrixKin y = Squares.holding(q, new int[] {2, 1, 1, 1}, q);
            for (int i = 0; i < 3; i++) {
                T.due("a number below 0: " + q[0] + ", " + q[1] + " ..", y.pair(i, (i + 1) % 3, 2), MatrixKin.NONE);
            }
        }
    }

    // ---- 18

    private static void noteTwenty() {
        T.sentence("Promise 18: An entry behind THE BOOK: how many. .. FULL (20).");
        MatrixKin x = Squares.written("R", "l", "L");
        for (int i = 1; i <= 20; i++) {
            T.due("entry " + i, x.note(0, i % 2, true), i);
        }
        T.due("no more", x.note(0, 2, true), MatrixKin.FULL);
        T.due("the same twenty", x.told(5), 20);
        T.due("nothing wrong in them", x.told(6), MatrixKin.NONE);
        x.tear();
        T.due("room again", x.note(0, 2, true), 1);
    }

    private static void noteUnknown() {
        T.sentence("Promise 18: UNKNOWN, FULL (20).");
        MatrixKin x = Squares.written("R", "L");
        for (int i = 0; i < 21; i++) {
            if (i == 0 || i == 20) {
                for (int s : new int[] {-1, 2, 12, LOW, HIGH}) {
                    T.due("note(" + s + ", 0) with " + i, x.note(s, 0, false), MatrixKin.UNKNOWN);
                    T.due("note(0, " + s + ") with " + i, x.note(0, s, false), MatrixKin.UNKNOWN);
                }
                T.due("entries", x.told(5), i);
            }
            x.note(1, 0, false);
        }
        T.due("known, but FULL", x.note(1, 1, true), MatrixKin.FULL);
    }

    private static void wrongFirst() {
        T.sentence("WRONG: the first that is otherwise now (..); NONE.");
        T.due("no BOOK", new MatrixKin().told(6), MatrixKin.NONE);
        for (int wrong = 0; wrong <= 20; wrong++) {
            MatrixKin x = Squares.written("R", "l", "L");
            for (int i = 0; i < 20; i++) {
                boolean isAlike = i % 3 != 2;
                x.note(i % 3, i % 3 == 0 ? 1 : 0, isAlike == (i < wrong));
            }
            T.due("from " + wrong + " on", x.told(6), wrong == 20 ? MatrixKin.NONE : wrong);
        }
        MatrixKin one = Squares.written("R", "L");
        one.note(0, 1, false);
        one.note(0, 1, true);
        one.note(1, 0, false);
        one.note(1, 0, true);
        T.due("the first of two", one.told(6), 1);
        one.tear();
        one.note(0, 0, false);
        T.due("a SQUARE is ALIKE to itself", one.told(6), 0);
    }

    private static void wrongNow() {
        T.sentence("WRONG: the first that is otherwise now");
        MatrixKin x = Squares.written("R", "L");
        x.keep(0);
        x.note(0, 1, false);
        T.due("right", x.told(6), MatrixKin.NONE);
        x.back(1);
        T.due("wrong behind back()", x.told(6), 0);
        x.undo(1);
        T.due("right behind undo()", x.told(6), MatrixKin.NONE);
        x.raise(0, 0);
        x.raise(1, 0);
        T.due("wrong behind raise()", x.told(6), 0);
        x.goBack(0);
        T.due("right behind goBack()", x.told(6), MatrixKin.NONE);
    }

    private static void wrongNoMore() {
        T.sentence("(one that there is no more: it is, too)");
        for (boolean isAlike : new boolean[] {true, false}) {
            MatrixKin x = Squares.written("R", isAlike ? "R" : "L");
            x.note(0, 0, true);
            x.note(0, 1, isAlike);
            x.note(1, 0, isAlike);
            T.due("both are there", x.told(6), MatrixKin.NONE);
            x.take(1);
            T.due("the second of them is no more", x.told(6), 1);
            x.take(0);
            T.due("none is there", x.told(6), 0);
            x.undo(2);
            T.due("both are there again", x.told(6), MatrixKin.NONE);
        }
        MatrixKin first = Squares.written("R", "L");
        first.note(1, 0, false);
        first.take(1);
        T.due("the first of the two is no more", first.told(6), 0);
    }

    // ---- 19

    private static void tearAll() {
        T.sentence("Promise 19: No BOOK: how much it had.");
        MatrixKin x = Squares.written("R");
        T.due("none", x.tear(), 0);
        for (int i = 0; i < 21; i++) {
            x.note(0, 0, false);
        }
        T.due("twenty", x.tear(), 20);
        T.due("no entries", x.told(5), 0);
        T.due("nothing WRONG", x.told(6), MatrixKin.NONE);
        T.due("none again", x.tear(), 0);
        T.due("from 1 on again", x.note(0, 0, true), 1);
        T.due("one", x.tear(), 1);
    }

    // ---- 20

    private static void seedBounds() {
        T.sentence("Promise 20: THE SEED becomes v (0 .. 2147483647): what it was. OUTSIDE.");
        MatrixKin x = new MatrixKin();
        T.due("0 at first", x.seed(HIGH), 0);
        T.due("-1", x.seed(-1), MatrixKin.OUTSIDE);
        T.due("the lowest", x.seed(LOW), MatrixKin.OUTSIDE);
        T.due("the greatest was taken and stays", x.seed(0), HIGH);
        T.due("the least was taken", x.seed(1), 0);
        T.due("no deed", x.told(7), 0);
    }

    // ---- 21

    private static void keepBounds() {
        T.sentence("Promise 21: IMAGE i becomes what is so (..): 1. UNKNOWN.");
        MatrixKin x = Squares.written("R");
        for (int i : new int[] {-1, 2, LOW, HIGH}) {
            T.due("keep(" + i + ")", x.keep(i), MatrixKin.UNKNOWN);
        }
        T.due("undone as ahead", x.told(7), 1);
        T.due("keep(0)", x.keep(0), 1);
        T.due("keep(1)", x.keep(1), 1);
    }

    private static void keepWhatIsSo() {
        T.sentence("IMAGES 0, 1 keep THE SHELF, THE SEED.");
        MatrixKin x = Squares.full();
        x.seed(HIGH);
        x.keep(0);
        for (int s = 11; s >= 0; s--) {
            x.take(s);
        }
        x.seed(0);
        x.keep(1);
        x.put(0, -1, 1, 0);
        x.seed(7);
        x.goBack(0);
        T.due("twelve", x.told(0), 12);
        for (int s = 0; s < 12; s++) {
            T.holds("as it was, " + s, Due.isSquare(x, s, 1, s + 1, 0, 1));
        }
        T.due("the greatest seed", x.seed(8), HIGH);
        x.goBack(1);
        T.due("none", x.told(0), 0);
        T.due("the least seed", x.seed(8), 0);
    }

    private static void keepAnew() {
        T.sentence("Promise 21: IMAGE i becomes what is so (and is no more what was so)");
        MatrixKin x = Squares.written("R", "L");
        x.keep(0);
        x.keep(1);
        x.take(0);
        x.seed(9);
        x.keep(0);
        x.put(1, 0, 0, 1);
        x.back(0);
        x.goBack(0);
        T.due("the later one", x.told(0), 1);
        T.holds("its square", Due.isSquare(x, 0, 1, 0, 1, 1));
        T.due("its seed", x.seed(3), 9);
        x.goBack(1);
        T.due("the other one stays", x.told(0), 2);
        T.due("its seed", x.seed(3), 0);
    }

    // ---- 22

    private static void goBackBounds() {
        T.sentence("Promise 22: What is so becomes IMAGE i (..): 1. UNKNOWN");
        MatrixKin x = Squares.written("R");
        x.keep(0);
        x.keep(1);
        x.back(0);
        for (int i : new int[] {-1, 2, LOW, HIGH}) {
            T.due("goBack(" + i + ")", x.goBack(i), MatrixKin.UNKNOWN);
        }
        T.due("undone as ahead", x.told(7), 1);
        T.due("goBack(0)", x.goBack(0), 1);
        T.due("goBack(1)", x.goBack(1), 1);
        T.due("goBack(1) again", x.goBack(1), 1);
    }

    private static void goBackNotKept() {
        T.sentence("Promise 22: NOT: it was not kept.");
        for (int kept = 0; kept < 2; kept++) {
            MatrixKin x = Squares.written("R");
            T.due("none is kept", x.goBack(kept), MatrixKin.NOT);
            x.keep(kept);
            T.due("kept " + kept, x.goBack(kept), 1);
            T.due("the other of " + kept, x.goBack(1 - kept), MatrixKin.NOT);
            T.due("as it is", x.told(0), 1);
        }
    }

    private static void goBackOrder() {
        T.sentence("Promise 22: UNKNOWN, NOT");
        MatrixKin x = new MatrixKin();
        T.due("goBack(-1), none is kept", x.goBack(-1), MatrixKin.UNKNOWN);
        T.due("goBack(2), none is kept", x.goBack(2), MatrixKin.UNKNOWN);
        x.keep(2);
        T.due("a keep() that was refused keeps nothing", x.goBack(0), MatrixKin.NOT);
    }

    private static void goBackToNone() {
        T.sentence("Promise 22: What is so becomes IMAGE i (an empty one, too)");
        MatrixKin x = new MatrixKin();
        x.keep(0);
        x.drift(12);
        T.due("gone back", x.goBack(0), 1);
        T.due("no SQUARES", x.told(0), 0);
        T.due("no SQUARE 0", x.number(0, 0), MatrixKin.UNKNOWN);
        T.due("the first one again", x.put(1, 0, 0, 1), 0);
    }

    private static void imagesKeepNoMore() {
        T.sentence("IMAGES 0, 1 keep THE SHELF, THE SEED. (neither THE TEXT nor THE BOOK nor the FAULT)");
        MatrixKin x = Squares.written("R", "?");
        x.feed('R');
        x.note(0, 0, true);
        x.keep(0);
        Due.write(x, "RR?");
        Due.feed(x, "RL");
        x.note(0, 0, false);
        x.goBack(0);
        T.due("THE TEXT", x.told(1), 2);
        T.due("THE BOOK", x.told(5), 2);
        T.due("WRONG in it", x.told(6), 1);
        T.due("the FAULT", x.fault(), 3);
    }

    private static void nothingCanBeUndone() {
        T.sentence("Promises 21, 22: (nothing can be undone then)");
        MatrixKin x = new MatrixKin();
        x.drift(12);
        for (int i = 0; i < 12; i++) {
            x.raise(i, 1);
        }
        T.due("twenty", x.told(7), 20);
        x.keep(0);
        T.due("none behind keep()", x.told(7), 0);
        T.due("undo() behind keep()", x.undo(1), MatrixKin.NOT);
        for (int i = 0; i < 12; i++) {
            x.take(0);
        }
        T.due("twelve", x.told(7), 12);
        x.goBack(0);
        T.due("none behind goBack()", x.told(7), 0);
        T.due("undo() behind goBack()", x.undo(1), MatrixKin.NOT);
        T.due("the squares are there", x.told(0), 12);
    }

    private static void lastCall() {
        T.sentence("An object is used for at most 512 calls after it has been made");
        MatrixKin x = new MatrixKin();
        for (int call = 0; call < 510; call += 2) {
            x.drift(12);
            x.take(call % 12);
        }
        T.due("the 511th", x.told(0), 11);
        T.due("the 512th", x.drift(1), 12);
    }
}
