/** The boundary cases that promises 1 to 9 name, a test for each sentence. */
public final class ShelfEdgesTest {
    private static final int MOST = Squares.MOST;
    private static final int LOW = Integer.MIN_VALUE;
    private static final int HIGH = Integer.MAX_VALUE;
    private static final Due T = new Due();

    public static void main(String[] args) {
        noSquares();
        lettersTaken();
        feedFull();
        feedOrder();
        writePut();
        writeEmptiesTheText();
        writeFaults();
        writeFull();
        faultOfTheLatest();
        faultOfARefusedWrite();
        putOutside();
        putNot();
        putOrder();
        toldWhats();
        toldEmpty();
        toldGreatest();
        toldMost();
        numberWhats();
        numberUnknown();
        squareWhats();
        squareUnknown();
        squareOfNoShift();
        squareOfNoStretch();
        squareTwinsAndGlass();
        runsInAndOut();
        runUnknown();
        T.end();
    }

    // ---- 1

    private static void noSquares() {
        T.sentence("Promise 1: No SQUARES.");
        MatrixKin x = new MatrixKin();
        int[] told = {0, 0, 0, 0, 0, 0, MatrixKin.NONE, 0};
        for (int what = 0; what < told.length; what++) {
            T.due("told(" + what + ")", x.told(what), told[what]);
        }
        T.due("number", x.number(0, 0), MatrixKin.UNKNOWN);
        T.due("square", x.square(0, 0), MatrixKin.UNKNOWN);
        T.due("run", x.run(0, 0), MatrixKin.UNKNOWN);
        T.due("multiply", x.multiply(0, 0), MatrixKin.UNKNOWN);
        T.due("back", x.back(0), MatrixKin.UNKNOWN);
        T.due("carry", x.carry(0, 0), MatrixKin.UNKNOWN);
        T.due("raise", x.raise(0, 0), MatrixKin.UNKNOWN);
        T.due("take", x.take(0), MatrixKin.UNKNOWN);
        T.due("pair", x.pair(0, 0, 0), MatrixKin.UNKNOWN);
        T.due("note", x.note(0, 0, true), MatrixKin.UNKNOWN);
        T.due("undo", x.undo(1), MatrixKin.NOT);
        T.due("goBack(0)", x.goBack(0), MatrixKin.NOT);
        T.due("goBack(1)", x.goBack(1), MatrixKin.NOT);
        T.due("fault", x.fault(), MatrixKin.NONE);
        T.due("tear", x.tear(), 0);
        T.due("seed", x.seed(0), 0);
    }

    // ---- 2

    private static void lettersTaken() {
        T.sentence("Promise 2: A letter (0 .. 255) .. OUTSIDE");
        MatrixKin x = new MatrixKin();
        T.due("feed(-1)", x.feed(-1), MatrixKin.OUTSIDE);
        T.due("feed(256)", x.feed(256), MatrixKin.OUTSIDE);
        T.due("feed, the lowest", x.feed(LOW), MatrixKin.OUTSIDE);
        T.due("feed, the highest", x.feed(HIGH), MatrixKin.OUTSIDE);
        T.due("R and 256", x.feed('R' + 256), MatrixKin.OUTSIDE);
        T.due("R less 256", x.feed('R' - 256), MatrixKin.OUTSIDE);
        T.due("none of them", x.told(1), 0);
        T.due("feed(0)", x.feed(0), 1);
        T.due("feed(255)", x.feed(255), 2);
        T.due("both of them", x.told(1), 2);
    }

    private static void feedFull() {
        T.sentence("Promise 2: how many it has. .. FULL (60).");
        MatrixKin x = new MatrixKin();
        for (int i = 1; i <= 60; i++) {
            T.due("letter " + i, x.feed('S'), i);
        }
        T.due("one more", x.feed('S'), MatrixKin.FULL);
        T.due("still so many", x.told(1), 60);
        T.due("as they were", x.write() == 0 && Squares.isAt(x, 0, Squares.ONE) ? 1 : 0, 1);
    }

    private static void feedOrder() {
        T.sentence("Promise 2: OUTSIDE, FULL (60).");
        MatrixKin x = new MatrixKin();
        Due.feed(x, "R".repeat(60));
        T.due("OUTSIDE ahead of FULL, below", x.feed(-1), MatrixKin.OUTSIDE);
        T.due("OUTSIDE ahead of FULL, above", x.feed(256), MatrixKin.OUTSIDE);
        T.due("FULL, the least letter", x.feed(0), MatrixKin.FULL);
        T.due("FULL, the greatest letter", x.feed(255), MatrixKin.FULL);
    }

    // ---- 3

    private static void writePut() {
        T.sentence("Promise 3: THE TEXT .. WRITTEN is PUT: its number");
        MatrixKin x = new MatrixKin();
        for (int s = 0; s < 12; s++) {
            T.due("number " + s, Due.write(x, "R".repeat(s)), s);
        }
        for (int s = 0; s < 12; s++) {
            T.holds("as written " + s, Due.isSquare(x, s, 1, s, 0, 1));
        }
        T.due("twelve deeds", x.told(7), 12);
    }

    private static void writeEmptiesTheText() {
        T.sentence("Promise 3: (it is empty then, with a FAULT, too)");
        MatrixKin x = new MatrixKin();
        Due.write(x, "RRR");
        T.due("empty", x.told(1), 0);
        Due.write(x, "RR?RR");
        T.due("empty with FAULT 1", x.told(1), 0);
        Due.write(x, "RL".repeat(20));
        T.due("empty with FAULT 2", x.told(1), 0);
        T.due("nothing of it is left", Due.write(x, "L"), 1);
        T.holds("L alone", Due.isSquare(x, 1, 1, 0, 1, 1));
    }

    private static void writeFaults() {
        T.sentence("Promise 3: -10 less the number of its FAULT");
        MatrixKin x = new MatrixKin();
        T.due("FAULT 1", Due.write(x, "?"), -11);
        T.due("FAULT 2", Due.write(x, "RL".repeat(15)), -12);
        T.due("nothing is put", x.told(0), 0);
        T.due("nothing can be undone", x.told(7), 0);
    }

    private static void writeFull() {
        T.sentence("Promise 3: FULL (12 SQUARES; THE TEXT stays; ahead of FAULTS).");
        MatrixKin x = Squares.full();
        T.due("an empty text", x.write(), MatrixKin.FULL);
        Due.feed(x, "RL");
        T.due("a good text", x.write(), MatrixKin.FULL);
        T.due("it stays", x.told(1), 2);
        x.feed('?');
        T.due("ahead of FAULT 1", x.write(), MatrixKin.FULL);
        T.due("it stays, too", x.told(1), 3);
        x.take(11);
        T.due("then the FAULT", x.write(), -11);
        T.due("at its letter", x.fault(), 2);
        x.put(1, 0, 0, 1);
        Due.feed(x, "RL".repeat(15));
        T.due("ahead of FAULT 2", x.write(), MatrixKin.FULL);
        x.take(0);
        T.due("then FAULT 2", x.write(), -12);
        Due.feed(x, "RL");
        T.due("the last room", x.write(), 11);
    }

    // ---- 4

    private static void faultOfTheLatest() {
        T.sentence("Promise 4: The letter of the FAULT of the latest write(); NONE.");
        MatrixKin x = new MatrixKin();
        T.due("no write() yet", x.fault(), MatrixKin.NONE);
        x.feed('?');
        T.due("not written yet", x.fault(), MatrixKin.NONE);
        x.write();
        T.due("the first letter", x.fault(), 0);
        T.due("asked again", x.fault(), 0);
        x.put(1, 0, 0, 1);
        x.feed('R');
        x.undo(1);
        x.keep(0);
        x.goBack(0);
        x.drift(1);
        T.due("no write() since", x.fault(), 0);
        x.write();
        T.due("a good one", x.fault(), MatrixKin.NONE);
        Due.write(x, "R".repeat(59) + "?");
        T.due("the last letter", x.fault(), 59);
        Due.write(x, "RL".repeat(15));
        T.due("FAULT 2", x.fault(), 29);
        x.write();
        T.due("an empty one", x.fault(), MatrixKin.NONE);
    }

    private static void faultOfARefusedWrite() {
        T.sentence("What is refused changes nothing. (fault() behind a write() that was FULL)");
        MatrixKin x = new MatrixKin();
        Due.write(x, "RR?");
        for (int s = 0; s < 12; s++) {
            x.put(1, 0, 0, 1);
        }
        x.write();
        T.due("still the one ahead", x.fault(), 2);
        MatrixKin y = Squares.full();
        Due.write(y, "?");
        T.due("still none", y.fault(), MatrixKin.NONE);
    }

    // ---- 5

    private static void putOutside() {
        T.sentence("Promise 5: PUT by its numbers: its number. OUTSIDE");
        int[] good = {1, 0, 0, 1};
        for (int place = 0; place < 4; place++) {
            for (int n : new int[] {MOST + 1, -MOST - 1, LOW, HIGH}) {
                int[] q = good.clone();
                q[place] = n;
                T.due("number " + place + " is " + n, Squares.put(new MatrixKin(), q), MatrixKin.OUTSIDE);
            }
        }
        MatrixKin x = Squares.holding(new int[] {MOST, 999999, 1, 1}, new int[] {-MOST, -999999, -1, -1});
        T.due("both sides are taken", x.told(0), 2);
    }

    private static void putNot() {
        T.sentence("Promise 5: NOT: a d less b c is not 1");
        MatrixKin x = new MatrixKin();
        T.due("0", x.put(1, 1, 1, 1), MatrixKin.NOT);
        T.due("2", x.put(1, 0, 0, 2), MatrixKin.NOT);
        T.due("-1", x.put(1, 0, 0, -1), MatrixKin.NOT);
        T.due("far", x.put(MOST, 0, 0, MOST), MatrixKin.NOT);
        T.due("none is put", x.told(0), 0);
    }

    private static void putOrder() {
        T.sentence("Promise 5: OUTSIDE, NOT .. ; FULL.");
        MatrixKin x = new MatrixKin();
        T.due("OUTSIDE ahead of NOT", x.put(MOST + 1, 0, 0, 1), MatrixKin.OUTSIDE);
        MatrixKin full = Squares.full();
        T.due("FULL", full.put(1, 0, 0, 1), MatrixKin.FULL);
        T.due("NOT ahead of FULL", full.put(1, 0, 0, 2), MatrixKin.NOT);
        T.due("OUTSIDE ahead of FULL", full.put(1, MOST + 1, 0, 1), MatrixKin.OUTSIDE);
        T.due("OUTSIDE ahead of all", full.put(1, 0, 0, -MOST - 1), MatrixKin.OUTSIDE);
    }

    // ---- 6

    private static void toldWhats() {
        T.sentence("Promise 6: 0 .., 7 how many can be undone. OUTSIDE.");
        MatrixKin x = Squares.written("RL");
        for (int what : new int[] {-1, 8, LOW, HIGH, 256}) {
            T.due("told(" + what + ")", x.told(what), MatrixKin.OUTSIDE);
        }
        T.due("told(0)", x.told(0), 1);
        T.due("told(7)", x.told(7), 1);
    }

    private static void toldEmpty() {
        T.sentence("FAMILIES: how many SQUARES of THE SHELF are unlike (none there)");
        MatrixKin x = Squares.written("RL", "R");
        x.take(0);
        x.take(0);
        T.due("FAMILIES of none", x.told(2), 0);
        T.due("GREATEST of none", x.told(3), 0);
        T.due("TWINS of none", x.told(4), 0);
    }

    private static void toldGreatest() {
        T.sentence("GREATEST: the FAMILY with the most; of like ones that of the least SQUARE.");
        MatrixKin x = Squares.written("RRL", "RLL", "LLR", "LRR", "S");
        T.due("of two with two", x.told(3), 0b1001);
        Due.write(x, "LRL");
        T.due("the second one has more", x.told(3), 0b100110);
        Due.write(x, "RLR");
        T.due("as many again", x.told(3), 0b1001001);
        x.take(0);
        T.due("the least one has gone", x.told(3), 0b10011);
        T.due("of twelve with one", Squares.full().told(3), 1);
    }

    private static void toldMost() {
        T.sentence("Promise 6: 0 SQUARES, 1 letters of THE TEXT, 2 FAMILIES, .. 5 entries of THE BOOK, .. 7 how many can be undone");
        MatrixKin x = Squares.full();
        T.due("as many families as squares", x.told(2), 12);
        Due.feed(x, "R".repeat(61));
        for (int i = 0; i < 21; i++) {
            x.note(0, 0, true);
            x.raise(i % 12, 0);
        }
        int[] want = {12, 60, 1, 4095, 12, 20, MatrixKin.NONE, 20};
        for (int what = 0; what < want.length; what++) {
            T.due("told(" + what + ")", x.told(what), want[what]);
        }
    }

    // ---- 7

    private static void numberWhats() {
        T.sentence("Promise 7: what = 0 a, 1 b, 2 c, 3 d (and 1000000). .. OUTSIDE");
        MatrixKin x = Squares.holding(new int[] {-2, 3, 5, -8});
        int[] want = {999998, 1000003, 1000005, 999992};
        for (int what = 0; what < 4; what++) {
            T.due("number(0, " + what + ")", x.number(0, what), want[what]);
        }
        for (int what : new int[] {-1, 4, LOW, HIGH}) {
            T.due("number(0, " + what + ")", x.number(0, what), MatrixKin.OUTSIDE);
        }
        MatrixKin far = Squares.holding(new int[] {MOST, 1, -1, 0}, new int[] {-MOST, 1, -1, 0}, Squares.shift(MOST),
            Squares.shift(-MOST), new int[] {1, 0, MOST, 1}, new int[] {1, 0, -MOST, 1}, new int[] {0, 1, -1, MOST},
            new int[] {0, 1, -1, -MOST});
        for (int s = 0; s < 8; s++) {
            T.due("the greatest, the least " + s, far.number(s, s / 2), s % 2 == 0 ? 2000000 : 0);
        }
    }

    private static void numberUnknown() {
        T.sentence("Promise 7: UNKNOWN, OUTSIDE.");
        MatrixKin x = Squares.written("R", "L");
        T.due("the last one", x.number(1, 0), 1000001);
        for (int s : new int[] {-1, 2, 12, LOW, HIGH}) {
            T.due("number(" + s + ", 0)", x.number(s, 0), MatrixKin.UNKNOWN);
            T.due("UNKNOWN ahead of OUTSIDE, above", x.number(s, 4), MatrixKin.UNKNOWN);
            T.due("UNKNOWN ahead of OUTSIDE, below", x.number(s, -1), MatrixKin.UNKNOWN);
        }
        x.take(0);
        T.due("no more", x.number(1, 0), MatrixKin.UNKNOWN);
    }

    // ---- 8

    private static void squareWhats() {
        T.sentence("Promise 8: what = 0 KIND, .., 10 letters of its WHEEL together .. OUTSIDE");
        MatrixKin x = Squares.written("RRL");
        int[] want = {3, 2000004, 2, MatrixKin.NONE, 0, 2, 1, 0, 1, 0, 3};
        for (int what = 0; what < want.length; what++) {
            T.due("square(0, " + what + ")", x.square(0, what), want[what]);
        }
        for (int what : new int[] {-1, 11, LOW, HIGH}) {
            T.due("square(0, " + what + ")", x.square(0, what), MatrixKin.OUTSIDE);
        }
    }

    private static void squareUnknown() {
        T.sentence("Promise 8: UNKNOWN, OUTSIDE.");
        MatrixKin x = Squares.written("R", "RL");
        T.due("the last one", x.square(1, 0), 3);
        for (int s : new int[] {-1, 2, 12, LOW, HIGH}) {
            T.due("square(" + s + ", 0)", x.square(s, 0), MatrixKin.UNKNOWN);
            T.due("UNKNOWN ahead of OUTSIDE, above", x.square(s, 11), MatrixKin.UNKNOWN);
            T.due("UNKNOWN ahead of OUTSIDE, below", x.square(s, -1), MatrixKin.UNKNOWN);
        }
        T.due("the twelfth", Squares.full().square(11, 0), 2);
        T.due("no thirteenth", Squares.full().square(12, 0), MatrixKin.UNKNOWN);
    }

    private static void squareOfNoShift() {
        T.sentence("Promise 8: 4 BY and 3000000 of a SHIFT (0: no SHIFT)");
        MatrixKin x = Squares.written("", "SS", "S", "RL", "SSRL", "R", "r");
        int[] want = {0, 0, 0, 0, 0, 3000001, 2999999};
        for (int s = 0; s < want.length; s++) {
            T.due("square(" + s + ", 4)", x.square(s, 4), want[s]);
        }
    }

    private static void squareOfNoStretch() {
        T.sentence("Promise 8: 5 RUNS .. (0: no STRETCH), 6 TIMES (0: no STRETCH), .. 10 letters .. (0: no STRETCH)");
        MatrixKin x = Squares.written("", "SS", "S", "RS", "R", "l", "SSR", "RL");
        for (int s = 0; s < 8; s++) {
            T.due("RUNS of " + s, x.square(s, 5), s == 7 ? 2 : 0);
            T.due("TIMES of " + s, x.square(s, 6), s == 7 ? 1 : 0);
            T.due("letters of " + s, x.square(s, 10), s == 7 ? 2 : 0);
        }
        x.raise(7, 0);
        T.due("RUNS of what was a STRETCH", x.square(7, 5), 0);
        T.due("TIMES of what was a STRETCH", x.square(7, 6), 0);
        T.due("letters of what was a STRETCH", x.square(7, 10), 0);
    }

    private static void squareTwinsAndGlass() {
        T.sentence("Promise 8: 7 1 it is one of TWINS, 0 not, .. 9 1 it is ALIKE to itself MIRRORED, 0 not");
        String[] texts = {"", "SS", "S", "RS", "R", "SSR", "RL", "RRL", "RLRRLL", "RLLRRRLRRLLL", "RRRLLRLL"};
        int[] twin = {1, 1, 0, 0, 0, 0, 1, 0, 1, 0, 0};
        int[] glass = {1, 1, 0, 0, 0, 0, 1, 0, 0, 1, 0};
        for (int i = 0; i < texts.length; i++) {
            MatrixKin x = Squares.written(texts[i]);
            T.due("TWINS " + texts[i], x.square(0, 7), twin[i]);
            T.due("MIRRORED " + texts[i], x.square(0, 9), glass[i]);
            T.due("how many TWINS " + texts[i], x.told(4), twin[i]);
        }
    }

    // ---- 9

    private static void runsInAndOut() {
        T.sentence("Promise 9: The k-th of the RUNS of the WHEEL of a SQUARE; NONE: not so many.");
        MatrixKin x = Squares.written("RRRLLRL", "R", "S", "", "SSRL");
        int[] want = {1, 1, 3, 2};
        for (int k = 0; k < want.length; k++) {
            T.due("run(0, " + k + ")", x.run(0, k), want[k]);
        }
        for (int k : new int[] {4, 5, 40, 64, HIGH, -1, -4, LOW}) {
            T.due("run(0, " + k + ")", x.run(0, k), MatrixKin.NONE);
        }
        for (int s = 1; s <= 3; s++) {
            T.due("no STRETCH " + s, x.run(s, 0), MatrixKin.NONE);
        }
        T.due("the last one", x.run(4, 1), 1);
        T.due("behind the last one", x.run(4, 2), MatrixKin.NONE);
        MatrixKin most = Squares.written("RL".repeat(14));
        T.due("the 28th", most.run(0, 27), 1);
        T.due("no 29th", most.run(0, 28), MatrixKin.NONE);
    }

    private static void runUnknown() {
        T.sentence("Promise 9: UNKNOWN.");
        MatrixKin x = Squares.written("RL");
        for (int s : new int[] {-1, 1, 12, LOW, HIGH}) {
            T.due("run(" + s + ", 0)", x.run(s, 0), MatrixKin.UNKNOWN);
            T.due("UNKNOWN ahead of NONE", x.run(s, 2), MatrixKin.UNKNOWN);
        }
    }
}
