/** The boundary cases that promises 10 to 16 and the draws name, a test for each sentence. */
public final class DeedsEdgesTest {
    private static final int MOST = Squares.MOST;
    private static final int LOW = Integer.MIN_VALUE;
    private static final int HIGH = Integer.MAX_VALUE;
    private static final Due T = new Due();

    public static void main(String[] args) {
        multiplySame();
        multiplyBounds();
        multiplyFull();
        multiplyUnknown();
        backAnother();
        backUnknown();
        carryAnother();
        carryBounds();
        carryUnknown();
        raiseAnother();
        raiseTimes();
        raiseBounds();
        raiseOrder();
        takeLeft();
        takeUnknown();
        driftTimes();
        driftRoom();
        seedAtFirst();
        seedWraps();
        drawnLetters();
        undoTimes();
        undoNotSoMany();
        undoTwentyAtMost();
        undoEachDeed();
        undoLeavesTheSeed();
        undoIsNoDeed();
        undoSinceTheImage();
        T.end();
    }

    // ---- 10

    private static void multiplySame() {
        T.sentence("Promise 10: A by B is PUT (perhaps the same): its number.");
        MatrixKin x = Squares.written("RL");
        T.due("the same", x.multiply(0, 0), 1);
        T.holds("by itself", Due.isSquare(x, 1, 5, 3, 3, 2));
        for (int s = 2; s < 12; s++) {
            T.due("number " + s, x.multiply(0, s % 2 == 0 ? 0 : 1), s);
        }
        T.holds("the first stays", Due.isSquare(x, 0, 2, 1, 1, 1));
    }

    private static int[] upper(int n) {
        return Squares.shift(n);
    }

    private static int[] lower(int n) {
        return Squares.swapped(Squares.shift(n));
    }

    private static void multiplyBounds() {
        T.sentence("Promise 10: NOT: a number would be out of its bounds");
        int[][][] within = {{upper(999), lower(1001)}, {upper(600000), upper(400000)}, {lower(600000), lower(400000)},
            {lower(999), upper(1001)}};
        int[][][] beyond = {{upper(1000), lower(1000)}, {upper(600000), upper(400001)}, {lower(600000), lower(400001)},
            {lower(1000), upper(1000)}};
        for (int place = 0; place < 4; place++) {
            for (int sign = -1; sign <= 1; sign += 2) {
                String name = "number " + place + ", side " + sign;
                int[] in = sign < 0 ? Squares.changed(within[place][0]) : within[place][0];
                int[] out = sign < 0 ? Squares.changed(beyond[place][0]) : beyond[place][0];
                MatrixKin x = Squares.holding(in, within[place][1], out, beyond[place][1]);
                T.due("1000000, " + name, x.multiply(0, 1), 4);
                T.due("as a number, " + name, x.number(4, place), MOST + sign * MOST);
                T.due("1000001, " + name, x.multiply(2, 3), MatrixKin.NOT);
                T.due("nothing is put, " + name, x.told(0), 5);
            }
        }
        MatrixKin far = Squares.holding(new int[] {999999, MOST, 999998, 999999});
        T.due("far out", far.multiply(0, 0), MatrixKin.NOT);
    }

    private static void multiplyFull() {
        T.sentence("Promise 10: FULL (ahead of NOT).");
        MatrixKin x = Squares.full();
        x.take(0);
        x.take(0);
        x.put(1, MOST, 0, 1);
        T.due("NOT, while there is room", x.multiply(10, 10), MatrixKin.NOT);
        T.due("the last room", x.multiply(0, 1), 11);
        T.due("FULL", x.multiply(0, 1), MatrixKin.FULL);
        T.due("FULL ahead of NOT", x.multiply(10, 10), MatrixKin.FULL);
    }

    private static void multiplyUnknown() {
        T.sentence("Promise 10: UNKNOWN, NOT .. ; FULL");
        MatrixKin x = Squares.written("R", "L");
        MatrixKin full = Squares.full();
        for (int s : new int[] {-1, 2, 12, LOW, HIGH}) {
            T.due("A is " + s, x.multiply(s, 0), MatrixKin.UNKNOWN);
            T.due("B is " + s, x.multiply(0, s), MatrixKin.UNKNOWN);
            T.due("both are " + s, x.multiply(s, s), MatrixKin.UNKNOWN);
        }
        T.due("UNKNOWN ahead of FULL, A", full.multiply(12, 0), MatrixKin.UNKNOWN);
        T.due("UNKNOWN ahead of FULL, B", full.multiply(0, -1), MatrixKin.UNKNOWN);
        T.due("the last ones are known", full.multiply(11, 11), MatrixKin.FULL);
    }

    // ---- 11

    private static void backAnother() {
        T.sentence("Promise 11: A SQUARE becomes its BACK: 1 it is another one then, 0 not.");
        MatrixKin x = Squares.written("", "SS", "S", "R", "RL");
        int[] want = {0, 0, 1, 1, 1};
        for (int s = 0; s < want.length; s++) {
            T.due("back(" + s + ")", x.back(s), want[s]);
        }
        T.holds("THE ONE", Squares.isAt(x, 0, Squares.ONE));
        T.holds("THE ONE CHANGED", Squares.isAt(x, 1, Squares.ONE_CHANGED));
        T.holds("s", Due.isSquare(x, 2, 0, 1, -1, 0));
        T.holds("its place stays", Due.isSquare(x, 3, 1, -1, 0, 1));
        MatrixKin full = Squares.full();
        T.due("THE SHELF may be full", full.back(11), 1);
        MatrixKin sides = Squares.holding(new int[] {-2, 3, -3, 4}, new int[] {3, 1, -1, 0});
        T.due("a and d alone differ", sides.back(1), 1);
        T.holds("as they are then", Due.isSquare(sides, 1, 0, -1, 1, 3));
    }

    private static void backUnknown() {
        T.sentence("Promise 11: UNKNOWN.");
        MatrixKin x = Squares.written("R", "L");
        for (int s : new int[] {-1, 2, 12, LOW, HIGH}) {
            T.due("back(" + s + ")", x.back(s), MatrixKin.UNKNOWN);
        }
        T.due("the last one", x.back(1), 1);
    }

    // ---- 12

    private static void carryAnother() {
        T.sentence("Promise 12: A SQUARE becomes B by it by BACK of B: 1 it is another one then, 0 not.");
        MatrixKin x = Squares.written("RL", "R", "", "SS", "RLRL");
        T.due("by itself", x.carry(0, 0), 0);
        T.due("by THE ONE", x.carry(0, 2), 0);
        T.due("by THE ONE CHANGED", x.carry(0, 3), 0);
        T.due("by one that it goes with", x.carry(0, 4), 0);
        T.due("THE ONE by another", x.carry(2, 0), 0);
        T.due("THE ONE CHANGED by another", x.carry(3, 0), 0);
        T.due("by another", x.carry(0, 1), 1);
        T.holds("B by it by BACK of B", Due.isSquare(x, 0, 3, -1, 1, 0));
        T.holds("B stays", Due.isSquare(x, 1, 1, 1, 0, 1));
        T.due("THE SHELF may be full", Squares.full().carry(0, 11), 0);
    }

    private static void carryBounds() {
        T.sentence("Promise 12: NOT: a number would be out of its bounds.");
        // L RR.. LL.. carried over by l is RR.. LL.., with a of 1000000 or 1000001.
        int[] nearA = {998999, 1001, 999997, 1002};
        int[] farA = {999001, 1000, MOST, 1001};
        int[] nearB = {1, 1, 0, 1};
        int[] byNearB = {1000, -1, 1, 0};
        int[] farB = {0, 1, -1, 0};
        int[][][] within = {{nearA, lower(-1)}, {nearB, byNearB},
            {Squares.swapped(nearB), Squares.swapped(byNearB)}, {Squares.swapped(nearA), upper(-1)}};
        int[][][] beyond = {{farA, lower(-1)}, {farB, upper(1000)},
            {Squares.swapped(farB), lower(1000)}, {Squares.swapped(farA), upper(-1)}};
        for (int place = 0; place < 4; place++) {
            for (int sign = -1; sign <= 1; sign += 2) {
                String name = "number " + place + ", side " + sign;
                int[] in = sign < 0 ? Squares.changed(within[place][0]) : within[place][0];
                int[] out = sign < 0 ? Squares.changed(beyond[place][0]) : beyond[place][0];
                MatrixKin x = Squares.holding(in, within[place][1], out, beyond[place][1]);
                T.due("1000000, " + name, x.carry(0, 1), 1);
                T.due("as a number, " + name, x.number(0, place), MOST + sign * MOST);
                T.due("1000001, " + name, x.carry(2, 3), MatrixKin.NOT);
                T.holds("it stays, " + name, Squares.isAt(x, 2, out));
            }
        }
        MatrixKin far = Squares.holding(new int[] {999999, MOST, 999998, 999999}, new int[] {999999, 999998, MOST, 999999});
        T.due("far out, near 4 times 10 to the 18", far.carry(0, 1), MatrixKin.NOT);
        T.due("far out, the other way", far.carry(1, 0), MatrixKin.NOT);
        MatrixKin through = Squares.holding(new int[] {1, 0, -2, 1}, new int[] {MOST, -1, 1, 0});
        T.due("out of bounds on the way alone", through.carry(0, 1), 1);
    }

    private static void carryUnknown() {
        T.sentence("Promise 12: UNKNOWN, NOT");
        MatrixKin x = Squares.holding(new int[] {0, -1, 1, 0}, upper(MOST));
        for (int s : new int[] {-1, 2, 12, LOW, HIGH}) {
            T.due("carry(" + s + ", 0)", x.carry(s, 0), MatrixKin.UNKNOWN);
            T.due("carry(0, " + s + ")", x.carry(0, s), MatrixKin.UNKNOWN);
        }
        T.due("both are known", x.carry(0, 1), MatrixKin.NOT);
    }

    // ---- 13

    private static void raiseAnother() {
        T.sentence("Promise 13: 1 it is another one then, 0 not");
        MatrixKin x = Squares.written("RL", "S", "SS", "");
        T.due("once", x.raise(0, 1), 0);
        T.due("round and once", x.raise(1, 5), 0);
        T.due("round four times and once", x.raise(1, 17), 0);
        T.due("half round and once", x.raise(2, 3), 0);
        T.due("half round", x.raise(2, 2), 1);
        T.due("THE ONE", x.raise(3, 20), 0);
        T.due("THE ONE not at all", x.raise(3, 0), 0);
        T.due("not at all", x.raise(0, 0), 1);
        T.holds("THE ONE then", Squares.isAt(x, 0, Squares.ONE));
    }

    private static void raiseTimes() {
        T.sentence("Promise 13: n times (0 .. 20; 0: THE ONE)");
        for (int n = 0; n <= 20; n++) {
            MatrixKin x = Squares.written("R");
            T.due("raise(0, " + n + ")", x.raise(0, n), n == 1 ? 0 : 1);
            T.holds("R " + n + " times", Due.isSquare(x, 0, 1, n, 0, 1));
        }
        for (int n : new int[] {-1, 21, LOW, HIGH}) {
            T.due("raise(0, " + n + ")", Squares.written("R").raise(0, n), MatrixKin.OUTSIDE);
        }
        MatrixKin far = Squares.holding(new int[] {999999, MOST, 999998, 999999});
        T.due("far out, not at all", far.raise(0, 0), 1);
    }

    private static void raiseBounds() {
        T.sentence("Promise 13: NOT: a number of one of these would be out of its bounds.");
        int[] farB = {-1382, 9901, -207, 1483};
        // To the 5th, to the 5th, squared: the number at that place alone is 1000001 then, of one and the other sign.
        int[][][] beyond = {{Squares.slantedShift(200000), Squares.changed(Squares.slantedShift(200000))},
            {farB, {-1382, -9901, 207, 1483}}, {Squares.swapped(farB), {1483, 207, -9901, -1382}},
            {Squares.slantedShift(-200000), Squares.changed(Squares.slantedShift(-200000))}};
        int[][][] within = {{Squares.slantedShift(333333), Squares.changed(Squares.slantedShift(333333))},
            {upper(200000), upper(-200000)}, {lower(200000), lower(-200000)},
            {Squares.slantedShift(-333333), Squares.changed(Squares.slantedShift(-333333))}};
        int[] timesBeyond = {5, 2, 2, 5};
        int[] timesWithin = {3, 5, 5, 3};
        for (int place = 0; place < 4; place++) {
            for (int side = 0; side < 2; side++) {
                String name = "number " + place + ", side " + side;
                MatrixKin x = Squares.holding(within[place][side], beyond[place][side]);
                T.due("1000000, " + name, x.raise(0, timesWithin[place]), 1);
                T.due("as a number, " + name, x.number(0, place), side == 0 ? 2 * MOST : 0);
                T.due("1000001, " + name, x.raise(1, timesBeyond[place]), MatrixKin.NOT);
                T.due("one time less, " + name, x.raise(1, timesBeyond[place] - 1), timesBeyond[place] > 2 ? 1 : 0);
            }
        }
        MatrixKin x = Squares.written("RL", "RL");
        T.due("14 times", x.raise(0, 14), 1);
        T.due("15 times", x.raise(1, 15), MatrixKin.NOT);
        T.due("20 times", x.raise(1, 20), MatrixKin.NOT);
        MatrixKin far = Squares.holding(new int[] {999999, MOST, 999998, 999999}, new int[] {999, -998002, 1, -999});
        T.due("far out", far.raise(0, 20), MatrixKin.NOT);
        T.due("far, but round", far.raise(1, 20), 1);
        T.holds("THE ONE then", Squares.isAt(far, 1, Squares.ONE));
    }

    private static void raiseOrder() {
        T.sentence("Promise 13: UNKNOWN, OUTSIDE, NOT");
        MatrixKin x = Squares.holding(upper(MOST));
        for (int s : new int[] {-1, 1, 12, LOW, HIGH}) {
            T.due("raise(" + s + ", 1)", x.raise(s, 1), MatrixKin.UNKNOWN);
            T.due("UNKNOWN ahead of OUTSIDE, above", x.raise(s, 21), MatrixKin.UNKNOWN);
            T.due("UNKNOWN ahead of OUTSIDE, below", x.raise(s, -1), MatrixKin.UNKNOWN);
        }
        T.due("OUTSIDE ahead of NOT", x.raise(0, 21), MatrixKin.OUTSIDE);
        T.due("NOT", x.raise(0, 20), MatrixKin.NOT);
    }

    // ---- 14

    private static void takeLeft() {
        T.sentence("Promise 14: A SQUARE goes: how many are left.");
        MatrixKin x = Squares.full();
        for (int left = 11; left >= 0; left--) {
            T.due("left", x.take(left), left);
        }
        T.due("none is there", x.take(0), MatrixKin.UNKNOWN);
        T.due("room again", x.put(0, -1, 1, 0), 0);
    }

    private static void takeUnknown() {
        T.sentence("Promise 14: UNKNOWN.");
        MatrixKin x = Squares.written("R", "L");
        for (int s : new int[] {-1, 2, 12, LOW, HIGH}) {
            T.due("take(" + s + ")", x.take(s), MatrixKin.UNKNOWN);
        }
        T.due("both are there", x.told(0), 2);
        T.due("the last one", x.take(1), 1);
    }

    // ---- 15

    private static void driftTimes() {
        T.sentence("Promise 15: n times BY DRAWS (1 .. 12): SQUARES. OUTSIDE.");
        for (int n : new int[] {0, 13, -1, LOW, HIGH}) {
            T.due("drift(" + n + ")", new MatrixKin().drift(n), MatrixKin.OUTSIDE);
        }
        for (int n = 1; n <= 12; n++) {
            MatrixKin x = new MatrixKin();
            T.due("drift(" + n + ")", x.drift(n), n);
            T.due("deeds of drift(" + n + ")", x.told(7), n);
        }
        T.due("OUTSIDE, full", Squares.full().drift(13), MatrixKin.OUTSIDE);
    }

    private static void driftRoom() {
        T.sentence("n times, while there is room");
        MatrixKin once = new MatrixKin();
        once.drift(3);
        int seedBehindThree = once.seed(0);
        for (int there = 0; there <= 12; there++) {
            MatrixKin x = new MatrixKin();
            for (int s = 0; s < there; s++) {
                x.put(1, 0, 0, 1);
            }
            T.due("three times, with " + there, x.drift(3), Math.min(there + 3, 12));
            T.due("deeds, with " + there, x.told(7), Math.min(there + 3, 12));
            if (there <= 9) {
                T.due("THE SEED, with " + there, x.seed(0), seedBehindThree);
            }
        }
        MatrixKin full = Squares.full();
        full.seed(12345);
        T.due("no room", full.drift(12), 12);
        T.due("no DRAW without room", full.seed(0), 12345);
    }

    /** THE SEED behind one DRAW, by the document's words. */
    private static long drawn(long seed) {
        return (seed * 1103515245L + 12345L) % 2147483648L;
    }

    private static void drawnAsTold(int first) {
        long seed = drawn(first);
        StringBuilder text = new StringBuilder();
        long letters = seed / 65536 % 8 + 2;
        for (long i = 0; i < letters; i++) {
            seed = drawn(seed);
            text.append("RLrlSs".charAt((int) (seed / 65536 % 6)));
        }
        MatrixKin x = new MatrixKin();
        x.seed(first);
        x.drift(1);
        T.due("seed behind drift(1) from " + first, x.seed(0), seed);
        Due.write(x, text.toString());
        for (int place = 0; place < 4; place++) {
            T.due("number " + place + " from " + first, x.number(0, place), x.number(1, place));
        }
    }

    private static void seedAtFirst() {
        T.sentence("THE SEED (0 at first: ..)");
        MatrixKin x = new MatrixKin();
        MatrixKin y = new MatrixKin();
        y.seed(0);
        T.due("drawn", x.drift(4), y.drift(4));
        T.due("the same seed", x.seed(0), y.seed(0));
        drawnAsTold(0);
    }

    private static void seedWraps() {
        T.sentence("it becomes it times 1103515245 and 12345, left over by 2 to the 31");
        for (int seed : new int[] {1, 2, 65535, 65536, 1 << 30, HIGH - 1, HIGH}) {
            drawnAsTold(seed);
        }
    }

    private static void drawnLetters() {
        T.sentence("a DRAW of 8, and 2: so many letters, each a DRAW of 6 (R, L, r, l, S, s)");
        int lengths = 0;
        for (int seed = 0; seed < 60; seed++) {
            lengths |= 1 << (drawn(seed) / 65536 % 8 + 2);
            drawnAsTold(seed);
        }
        T.due("2 to 9 letters came", lengths, 0b1111111100);
    }

    // ---- 16

    /** Three squares, of which the last is taken and another put that many times: two deeds each time. */
    private static MatrixKin exchanged(int times) {
        MatrixKin x = Squares.written("", "R", "");
        x.keep(0);
        for (int i = 1; i <= times; i++) {
            x.take(2);
            x.put(1, i, 0, 1);
        }
        return x;
    }

    private static void undoTimes() {
        T.sentence("Promise 16: The n latest (1 .. 20) are undone: SQUARES. OUTSIDE");
        for (int n : new int[] {0, -1, 21, LOW, HIGH}) {
            T.due("undo(" + n + ")", exchanged(15).undo(n), MatrixKin.OUTSIDE);
        }
        for (int n = 1; n <= 20; n++) {
            MatrixKin x = exchanged(12);
            T.due("undo(" + n + ")", x.undo(n), n % 2 == 0 ? 3 : 2);
            T.due("left behind undo(" + n + ")", x.told(7), 20 - n);
            if (n % 2 == 0) {
                T.holds("as ahead of " + n, Due.isSquare(x, 2, 1, 12 - n / 2, 0, 1));
            }
        }
    }

    private static void undoNotSoMany() {
        T.sentence("Promise 16: OUTSIDE, NOT: not so many.");
        MatrixKin x = Squares.written("R", "L", "S");
        T.due("one too many", x.undo(4), MatrixKin.NOT);
        T.due("twenty", x.undo(20), MatrixKin.NOT);
        T.due("OUTSIDE ahead of NOT", x.undo(21), MatrixKin.OUTSIDE);
        T.due("all stay", x.told(0) * 10 + x.told(7), 33);
        T.due("just so many", x.undo(3), 0);
        T.due("none are left", x.undo(1), MatrixKin.NOT);
        T.due("OUTSIDE with none left", x.undo(0), MatrixKin.OUTSIDE);
    }

    private static void undoTwentyAtMost() {
        T.sentence("UNDONE: the latest deeds .. (20 at most are kept)");
        for (int deeds = 18; deeds <= 24; deeds++) {
            MatrixKin x = Squares.written("R");
            x.keep(0);
            for (int i = 0; i < deeds; i++) {
                x.take(0);
                x.undo(1);
                x.back(0);
            }
            T.due("kept of " + deeds, x.told(7), Math.min(deeds, 20));
            if (deeds >= 20) {
                T.due("twenty of " + deeds, x.undo(20), 1);
                T.due("none is left of " + deeds, x.undo(1), MatrixKin.NOT);
                T.holds("as ahead of twenty of " + deeds, Due.isSquare(x, 0, 1, deeds % 2 == 0 ? 1 : -1, 0, 1));
            }
        }
    }

    private interface Deed {
        int done(MatrixKin x);
    }

    private static void undone(String name, Deed deed) {
        MatrixKin x = Squares.holding(new int[] {2, 1, 1, 1}, upper(3), new int[] {0, -1, 1, 0});
        x.keep(0);
        Due.feed(x, "RRL");
        T.holds(name + " is done", deed.done(x) >= 0);
        T.due(name + " can be undone", x.told(7), 1);
        T.due(name + " is undone", x.undo(1), 3);
        T.due("nothing is left behind " + name, x.told(7), 0);
        T.holds("the first, " + name, Due.isSquare(x, 0, 2, 1, 1, 1));
        T.holds("the second, " + name, Due.isSquare(x, 1, 1, 3, 0, 1));
        T.holds("the third, " + name, Due.isSquare(x, 2, 0, -1, 1, 0));
    }

    private static void undoEachDeed() {
        T.sentence("the latest deeds (write(), put(), multiply(), back(), carry(), raise(), take(), each of the times BY DRAWS)");
        undone("write()", x -> x.write());
        undone("put()", x -> x.put(1, 1, 0, 1));
        undone("multiply()", x -> x.multiply(0, 1));
        undone("back()", x -> x.back(0));
        undone("carry()", x -> x.carry(0, 1));
        undone("raise()", x -> x.raise(0, 2));
        undone("take(0)", x -> x.take(0));
        undone("take(2)", x -> x.take(2));
        undone("drift(1)", x -> x.drift(1));
        undone("carry() to the same", x -> x.carry(0, 0));
        undone("raise() to the same", x -> x.raise(0, 1));
        MatrixKin one = Squares.written("");
        one.back(0);
        T.due("back() to the same can be undone", one.told(7), 2);
        T.due("back() to the same is undone", one.undo(1), 1);
        MatrixKin drawn = new MatrixKin();
        drawn.drift(5);
        MatrixKin three = new MatrixKin();
        three.drift(3);
        T.due("two of five times", drawn.undo(2), 3);
        for (int s = 0; s < 3; s++) {
            for (int place = 0; place < 4; place++) {
                T.due("drawn " + s + ", number " + place, drawn.number(s, place), three.number(s, place));
            }
        }
    }

    private static void undoLeavesTheSeed() {
        T.sentence("THE SHELF is as ahead of them; THE SEED stays.");
        MatrixKin x = new MatrixKin();
        x.seed(5);
        x.drift(2);
        int seed = x.seed(6);
        x.seed(seed);
        T.due("undone", x.undo(2), 0);
        T.due("THE SEED", x.seed(0), seed);
        T.sentence("THE SHELF is as ahead of them (no more than THE SHELF)");
        MatrixKin y = Squares.written("R", "L");
        y.note(0, 1, true);
        Due.write(y, "RR?");
        Due.feed(y, "RL");
        y.undo(2);
        T.due("THE BOOK stays", y.told(5), 1);
        T.due("THE TEXT stays", y.told(1), 2);
        T.due("the FAULT stays", y.fault(), 2);
    }

    private static void undoIsNoDeed() {
        T.sentence("UNDONE: the latest deeds (..): undo() is none, nor what asks, feeds, notes, tears, seeds");
        MatrixKin x = Squares.written("R", "L", "S");
        x.undo(1);
        x.feed('R');
        x.note(0, 1, true);
        x.told(2);
        x.square(0, 8);
        x.pair(0, 1, 0);
        x.tear();
        x.seed(7);
        T.due("two are left", x.told(7), 2);
        T.due("the second one goes", x.undo(1), 1);
        T.holds("the first one stays", Due.isSquare(x, 0, 1, 1, 0, 1));
        x.put(0, -1, 1, 0);
        T.due("another way on", x.undo(2), 0);
    }

    private static void undoSinceTheImage() {
        T.sentence("UNDONE: the latest deeds .. since the IMAGE");
        MatrixKin x = Squares.written("R", "L");
        x.keep(1);
        T.due("none since keep()", x.undo(1), MatrixKin.NOT);
        x.back(0);
        x.back(1);
        T.due("two since keep()", x.undo(3), MatrixKin.NOT);
        T.due("both since keep()", x.undo(2), 2);
        x.back(0);
        x.goBack(1);
        T.due("none since goBack()", x.undo(1), MatrixKin.NOT);
        x.take(0);
        T.due("one since goBack()", x.undo(1), 2);
    }
}
