/** Promises 10 to 16: deeds. */
public final class DeedsTest {
    private static final Due T = new Due();

    public static void main(String[] args) {
        multiply();
        multiplyRefusals();
        back();
        carry();
        carryRefusals();
        raise();
        raiseRefusals();
        take();
        drift();
        driftWithoutRoom();
        undo();
        undoEachDeed();
        undoKeepsTwenty();
        T.end();
    }

    private static MatrixKin of(String... texts) {
        MatrixKin x = new MatrixKin();
        for (String text : texts) {
            Due.write(x, text);
        }
        return x;
    }

    private static void fill(MatrixKin x) {
        for (int i = 0; i < 12; i++) {
            x.put(1, 0, 0, 1);
        }
    }

    private static void multiply() {
        MatrixKin x = of("RRL", "S");
        T.due("10 first by second", x.multiply(0, 1), 2);
        T.holds("10 numbers", Due.isSquare(x, 2, 2, -3, 1, -1));
        T.due("10 second by first", x.multiply(1, 0), 3);
        T.holds("10 the other way", Due.isSquare(x, 3, -1, -1, 3, 2));
        T.due("10 by itself", x.multiply(0, 0), 4);
        T.holds("10 numbers by itself", Due.isSquare(x, 4, 11, 8, 4, 3));
        T.due("10 deeds", x.told(7), 5);
    }

    private static void multiplyRefusals() {
        MatrixKin x = new MatrixKin();
        x.put(1, 600000, 0, 1);
        x.put(1, 400000, 0, 1);
        x.put(1, 400001, 0, 1);
        T.due("10 just within", x.multiply(0, 1), 3);
        T.holds("10 its number", Due.isSquare(x, 3, 1, 1000000, 0, 1));
        T.due("10 out of bounds", x.multiply(0, 2), MatrixKin.NOT);
        T.due("10 no first", x.multiply(4, 0), MatrixKin.UNKNOWN);
        T.due("10 no second", x.multiply(0, 4), MatrixKin.UNKNOWN);
        T.due("10 below", x.multiply(-1, 0), MatrixKin.UNKNOWN);
        T.due("10 refused changes nothing", x.told(0) * 100 + x.told(7), 404);
        fill(x);
        T.due("10 full", x.multiply(1, 1), MatrixKin.FULL);
        T.due("10 full ahead of not", x.multiply(0, 2), MatrixKin.FULL);
        T.due("10 unknown ahead of full", x.multiply(0, 12), MatrixKin.UNKNOWN);
    }

    private static void back() {
        MatrixKin x = of("RRL", "", "SS");
        T.due("11 another one", x.back(0), 1);
        T.holds("11 numbers", Due.isSquare(x, 0, 1, -2, -1, 3));
        T.due("11 the one stays", x.back(1), 0);
        T.due("11 it changed stays", x.back(2), 0);
        T.due("11 all are deeds", x.told(7), 6);
        T.due("11 again", x.back(0), 1);
        T.holds("11 as it was", Due.isSquare(x, 0, 3, 2, 1, 1));
        T.due("11 unknown", x.back(3), MatrixKin.UNKNOWN);
        T.due("11 below", x.back(-1), MatrixKin.UNKNOWN);
    }

    private static void carry() {
        MatrixKin x = of("RL", "R", "S");
        T.due("12 another one", x.carry(0, 1), 1);
        T.holds("12 R by RL by r", Due.isSquare(x, 0, 3, -1, 1, 0));
        T.due("12 by S", x.carry(1, 2), 1);
        T.holds("12 S by R by s", Due.isSquare(x, 1, 1, 0, -1, 1));
        T.due("12 by itself", x.carry(0, 0), 0);
        T.holds("12 the other two stay", Due.isSquare(x, 2, 0, -1, 1, 0));
        T.due("12 all are deeds", x.told(7), 6);
    }

    private static void carryRefusals() {
        MatrixKin x = new MatrixKin();
        x.put(0, -1, 1, 0);
        x.put(1, 1000000, 0, 1);
        x.put(1, 999, 0, 1);
        T.due("12 out of bounds", x.carry(0, 1), MatrixKin.NOT);
        T.due("12 within", x.carry(0, 2), 1);
        T.holds("12 numbers", Due.isSquare(x, 0, 999, -998002, 1, -999));
        T.due("12 no square", x.carry(3, 0), MatrixKin.UNKNOWN);
        T.due("12 no carrier", x.carry(0, 3), MatrixKin.UNKNOWN);
        T.due("12 below", x.carry(0, -1), MatrixKin.UNKNOWN);
        x.put(1000000, 999999, 1, 1);
        x.put(999999, 1000000, -1, -1);
        T.due("12 far out of bounds", x.carry(3, 4), MatrixKin.NOT);
        T.due("12 on the way out of bounds", carriedThroughOutside(), 1);
        T.due("12 refused changes nothing", x.told(7), 6);
    }

    /** B by A has 1000002, but B by A by BACK of B is 1, 2, 0, 1. */
    private static int carriedThroughOutside() {
        MatrixKin x = new MatrixKin();
        x.put(1, 0, -2, 1);
        x.put(1000000, -1, 1, 0);
        return x.carry(0, 1) == 1 && Due.isSquare(x, 0, 1, 2, 0, 1) ? 1 : 0;
    }

    private static void raise() {
        MatrixKin x = of("RL", "S", "R", "");
        T.due("13 squared", x.raise(0, 2), 1);
        T.holds("13 numbers", Due.isSquare(x, 0, 5, 3, 3, 2));
        T.due("13 once", x.raise(0, 1), 0);
        T.due("13 round", x.raise(1, 5), 0);
        T.due("13 round half", x.raise(1, 2), 1);
        T.holds("13 half round", Due.isSquare(x, 1, -1, 0, 0, -1));
        T.due("13 twenty", x.raise(2, 20), 1);
        T.holds("13 shifted", Due.isSquare(x, 2, 1, 20, 0, 1));
        T.due("13 not at all", x.raise(2, 0), 1);
        T.holds("13 the one", Due.isSquare(x, 2, 1, 0, 0, 1));
        T.due("13 the one stays", x.raise(3, 0), 0);
        T.due("13 all are deeds", x.told(7), 11);
    }

    private static void raiseRefusals() {
        MatrixKin x = of("RL");
        x.put(1, 1000000, 0, 1);
        T.due("13 out of bounds", x.raise(0, 15), MatrixKin.NOT);
        T.due("13 just out", x.raise(1, 2), MatrixKin.NOT);
        T.due("13 below", x.raise(0, -1), MatrixKin.OUTSIDE);
        T.due("13 above", x.raise(0, 21), MatrixKin.OUTSIDE);
        T.due("13 outside ahead of not", x.raise(1, 21), MatrixKin.OUTSIDE);
        T.due("13 unknown", x.raise(2, 1), MatrixKin.UNKNOWN);
        T.due("13 unknown ahead of outside", x.raise(-1, 21), MatrixKin.UNKNOWN);
        T.due("13 refused changes nothing", x.told(7), 2);
        T.due("13 just within", x.raise(0, 14), 1);
        T.holds("13 its numbers", Due.isSquare(x, 0, 514229, 317811, 317811, 196418));
    }

    private static void take() {
        MatrixKin x = of("R", "L", "S");
        T.due("14 unknown", x.take(3), MatrixKin.UNKNOWN);
        T.due("14 below", x.take(-1), MatrixKin.UNKNOWN);
        T.due("14 the middle one", x.take(1), 2);
        T.holds("14 earlier stays", Due.isSquare(x, 0, 1, 1, 0, 1));
        T.holds("14 later has one less", Due.isSquare(x, 1, 0, -1, 1, 0));
        T.due("14 the last", x.take(1), 1);
        T.due("14 the only one", x.take(0), 0);
        T.due("14 none", x.take(0), MatrixKin.UNKNOWN);
        T.due("14 deeds", x.told(7), 6);
    }

    /** The draws as the document tells them. */
    private static long drawn(long seed) {
        return (seed * 1103515245L + 12345L) % (1L << 31);
    }

    private static void drift() {
        MatrixKin x = new MatrixKin();
        T.due("15 below", x.drift(0), MatrixKin.OUTSIDE);
        T.due("15 above", x.drift(13), MatrixKin.OUTSIDE);
        T.due("15 seed stays when refused", x.seed(2147483647), 0);
        T.due("15 once", x.drift(1), 1);
        long seed = drawn(2147483647L);
        StringBuilder text = new StringBuilder();
        long letters = seed / 65536 % 8 + 2;
        for (long i = 0; i < letters; i++) {
            seed = drawn(seed);
            text.append("RLrlSs".charAt((int) (seed / 65536 % 6)));
        }
        T.due("15 written", Due.write(x, text.toString()), 1);
        for (int what = 0; what < 4; what++) {
            T.due("15 number " + what, x.number(0, what), x.number(1, what));
        }
        T.due("15 seed", x.seed(0), seed);
        T.due("15 the text is not used", x.told(1), 0);
    }

    private static void driftWithoutRoom() {
        MatrixKin x = new MatrixKin();
        x.put(1, 0, 0, 1);
        x.feed('R');
        T.due("15 while there is room", x.drift(12), 12);
        T.due("15 each time is a deed", x.told(7), 12);
        T.due("15 text stays", x.told(1), 1);
        int seed = x.seed(5);
        x.seed(seed);
        T.due("15 no room", x.drift(3), 12);
        T.due("15 nothing is drawn then", x.seed(0), seed);
        T.due("15 no deed then", x.told(7), 12);
    }

    private static void undo() {
        MatrixKin x = of("R", "L");
        T.due("16 below", x.undo(0), MatrixKin.OUTSIDE);
        T.due("16 above", x.undo(21), MatrixKin.OUTSIDE);
        T.due("16 not so many", x.undo(3), MatrixKin.NOT);
        T.due("16 refused changes nothing", x.told(0) * 10 + x.told(7), 22);
        x.seed(77);
        x.drift(2);
        int seed = x.seed(1);
        x.seed(seed);
        T.due("16 one time of two", x.undo(1), 3);
        T.due("16 the seed stays", x.seed(seed), seed);
        T.due("16 two deeds", x.undo(2), 1);
        T.holds("16 the first is there", Due.isSquare(x, 0, 1, 1, 0, 1));
        T.due("16 one is left", x.told(7), 1);
        T.due("16 not two", x.undo(2), MatrixKin.NOT);
        T.due("16 the last one", x.undo(1), 0);
        T.due("16 none", x.undo(1), MatrixKin.NOT);
        Due.write(x, "S");
        T.due("16 goes on", x.undo(1), 0);
    }

    private static void undoEachDeed() {
        MatrixKin x = of("RL", "R", "L");
        x.back(0);
        x.carry(1, 2);
        x.raise(2, 3);
        x.take(0);
        x.multiply(0, 0);
        T.due("16 multiply", x.undo(1), 2);
        T.due("16 take", x.undo(1), 3);
        T.holds("16 taken is back", Due.isSquare(x, 0, 1, -1, -1, 2));
        T.holds("16 raised still", Due.isSquare(x, 2, 1, 0, 3, 1));
        T.due("16 raise", x.undo(1), 3);
        T.holds("16 not raised", Due.isSquare(x, 2, 1, 0, 1, 1));
        T.holds("16 carried still", Due.isSquare(x, 1, 0, 1, -1, 2));
        T.due("16 carry", x.undo(1), 3);
        T.holds("16 not carried", Due.isSquare(x, 1, 1, 1, 0, 1));
        T.due("16 back", x.undo(1), 3);
        T.holds("16 not turned back", Due.isSquare(x, 0, 2, 1, 1, 1));
    }

    private static void undoKeepsTwenty() {
        MatrixKin x = of("R", "L");
        for (int i = 0; i < 22; i++) {
            x.raise(0, 1);
        }
        T.due("16 twenty are kept", x.told(7), 20);
        x.put(0, -1, 1, 0);
        T.due("16 twenty still", x.told(7), 20);
        T.due("16 all twenty", x.undo(20), 2);
        T.due("16 nothing left", x.told(7), 0);
        T.due("16 not more", x.undo(1), MatrixKin.NOT);
    }
}
