import java.util.Arrays;

/** Promises 1 to 9: the shelf. */
public final class ShelfTest {
    private static final Due T = new Due();

    public static void main(String[] args) {
        newObject();
        feed();
        write();
        writeFaults();
        writeFull();
        put();
        told();
        toldFamilies();
        number();
        squareOfKindOne();
        squareOfRound();
        squareOfShift();
        squareOfStretch();
        squareWheelTurned();
        squareSeenElsewhere();
        squareRefusals();
        run();
        T.end();
    }

    private static void newObject() {
        MatrixKin x = new MatrixKin();
        int[] want = {0, 0, 0, 0, 0, 0, MatrixKin.NONE, 0};
        for (int what = 0; what < want.length; what++) {
            T.due("1 told " + what, x.told(what), want[what]);
        }
        T.due("1 fault", x.fault(), MatrixKin.NONE);
        T.due("1 no square", x.number(0, 0), MatrixKin.UNKNOWN);
        T.due("1 no seed", x.seed(0), 0);
        T.due("1 no image", x.goBack(0), MatrixKin.NOT);
        T.due("1 no past", x.undo(1), MatrixKin.NOT);
        T.due("1 no book", x.tear(), 0);
    }

    private static void feed() {
        MatrixKin x = new MatrixKin();
        T.due("2 least letter", x.feed(0), 1);
        T.due("2 greatest letter", x.feed(255), 2);
        T.due("2 below", x.feed(-1), MatrixKin.OUTSIDE);
        T.due("2 above", x.feed(256), MatrixKin.OUTSIDE);
        T.due("2 far", x.feed(Integer.MIN_VALUE), MatrixKin.OUTSIDE);
        T.due("2 refused changes nothing", x.told(1), 2);
        for (int i = 3; i <= 60; i++) {
            T.due("2 letter " + i, x.feed('R'), i);
        }
        T.due("2 full", x.feed('R'), MatrixKin.FULL);
        T.due("2 outside ahead of full", x.feed(256), MatrixKin.OUTSIDE);
        T.due("2 still 60", x.told(1), 60);
    }

    private static void write() {
        MatrixKin x = new MatrixKin();
        T.due("3 empty", x.write(), 0);
        T.holds("3 empty is the one", Due.isSquare(x, 0, 1, 0, 0, 1));
        String[] texts = {"R", "L", "r", "l", "S", "s", "RL", "LR", "RrS", "SRs"};
        int[][] want = {{1, 1, 0, 1}, {1, 0, 1, 1}, {1, -1, 0, 1}, {1, 0, -1, 1}, {0, -1, 1, 0}, {0, 1, -1, 0},
            {2, 1, 1, 1}, {1, 1, 1, 2}, {0, -1, 1, 0}, {1, 0, -1, 1}};
        for (int i = 0; i < texts.length; i++) {
            T.due("3 " + texts[i], Due.write(x, texts[i]), i + 1);
            T.holds("3 numbers of " + texts[i], Due.isSquare(x, i + 1, want[i][0], want[i][1], want[i][2], want[i][3]));
            T.due("3 text is empty behind " + texts[i], x.told(1), 0);
            T.due("4 no fault of " + texts[i], x.fault(), MatrixKin.NONE);
        }
        T.due("3 each is a deed", x.told(7), 11);
    }

    private static void writeFaults() {
        MatrixKin x = new MatrixKin();
        T.due("3 another letter", Due.write(x, "RLx"), -11);
        T.due("4 its place", x.fault(), 2);
        T.due("3 text is empty, with a fault too", x.told(1), 0);
        T.due("3 nothing is put", x.told(0), 0);
        T.due("3 no deed", x.told(7), 0);
        T.due("3 first letter", Due.write(x, "1R"), -11);
        T.due("4 first place", x.fault(), 0);
        T.due("4 stays when letters are fed", x.feed('R') + 10 * x.fault(), 1);
        T.due("3 then well", x.write(), 0);
        T.due("4 well: none", x.fault(), MatrixKin.NONE);
        // The 30th letter makes 1346269 of R and L in turn; the 31st one would be another letter.
        T.due("3 out of bounds", Due.write(x, "RL".repeat(15) + "x"), -12);
        T.due("4 where it goes out of bounds", x.fault(), 29);
        T.due("3 another letter ahead", Due.write(x, "RL".repeat(14) + "x" + "RL"), -11);
        T.due("4 the first one", x.fault(), 28);
        T.due("3 just within bounds", Due.write(x, "RL".repeat(14) + "R"), 1);
        T.holds("3 numbers just within", Due.isSquare(x, 1, 514229, 832040, 317811, 514229));
        T.due("4 put leaves it", faultBehindPut(), 0);
    }

    private static int faultBehindPut() {
        MatrixKin x = new MatrixKin();
        Due.write(x, "?");
        x.put(1, 0, 0, 1);
        return x.fault();
    }

    private static void writeFull() {
        MatrixKin x = new MatrixKin();
        Due.write(x, "RR?");
        for (int i = 0; i < 12; i++) {
            T.due("5 room for " + i, x.put(1, i, 0, 1), i);
        }
        Due.feed(x, "Rx");
        T.due("3 full ahead of faults", x.write(), MatrixKin.FULL);
        T.due("3 text stays", x.told(1), 2);
        T.due("4 a refused write changes nothing", x.fault(), 2);
        x.take(0);
        T.due("3 then its fault", x.write(), -11);
        T.due("4 its place", x.fault(), 1);
        T.due("3 the text went", x.write(), 11);
        T.holds("3 the one", Due.isSquare(x, 11, 1, 0, 0, 1));
    }

    private static void put() {
        MatrixKin x = new MatrixKin();
        T.due("5 first", x.put(1000000, 999999, 1, 1), 0);
        T.due("5 second", x.put(1, -1000000, 0, 1), 1);
        T.holds("5 numbers", Due.isSquare(x, 1, 1, -1000000, 0, 1));
        T.due("5 a above", x.put(1000001, 1000000, 1, 1), MatrixKin.OUTSIDE);
        T.due("5 b below", x.put(1, -1000001, 0, 1), MatrixKin.OUTSIDE);
        T.due("5 c above", x.put(1, 0, 1000001, 1), MatrixKin.OUTSIDE);
        T.due("5 d below", x.put(-1, 0, 0, -1000001), MatrixKin.OUTSIDE);
        T.due("5 outside ahead of not", x.put(Integer.MAX_VALUE, 0, 0, 5), MatrixKin.OUTSIDE);
        T.due("5 not one", x.put(1, 0, 0, 2), MatrixKin.NOT);
        T.due("5 less one", x.put(0, 1, 1, 0), MatrixKin.NOT);
        // 65536 times 65536 is 0 in 32 bits, so that a d less b c would be 1 there.
        T.due("5 no wrap of products", x.put(65536, 1, -1, 65536), MatrixKin.NOT);
        T.due("5 refused changes nothing", x.told(0) * 100 + x.told(7), 202);
        for (int i = 2; i < 12; i++) {
            x.put(0, -1, 1, 0);
        }
        T.due("5 full", x.put(1, 0, 0, 1), MatrixKin.FULL);
        T.due("5 not ahead of full", x.put(1, 0, 0, 2), MatrixKin.NOT);
        T.due("5 outside ahead of full", x.put(1, 0, 0, 1000001), MatrixKin.OUTSIDE);
    }

    private static void told() {
        MatrixKin x = new MatrixKin();
        T.due("6 below", x.told(-1), MatrixKin.OUTSIDE);
        T.due("6 above", x.told(8), MatrixKin.OUTSIDE);
        T.due("6 far", x.told(Integer.MAX_VALUE), MatrixKin.OUTSIDE);
        Due.write(x, "RL");
        Due.write(x, "R");
        x.feed('x');
        x.note(0, 1, false);
        x.note(0, 1, true);
        int[] want = {2, 1, 2, 1, 1, 2, 1, 2};
        for (int what = 0; what < want.length; what++) {
            T.due("6 told " + what, x.told(what), want[what]);
        }
    }

    private static void toldFamilies() {
        MatrixKin x = new MatrixKin();
        Due.write(x, "R");
        Due.write(x, "RRL");
        Due.write(x, "LRR");
        Due.write(x, "RLL");
        Due.write(x, "l");
        T.due("6 families", x.told(2), 3);
        T.due("6 greatest: of like ones that of the least", x.told(3), 0b10001);
        Due.write(x, "RLR");
        T.due("6 families again", x.told(2), 3);
        T.due("6 greatest: the most", x.told(3), 0b100110);
        T.due("6 no twins", x.told(4), 0);
        Due.write(x, "RRLL");
        Due.write(x, "SS");
        T.due("6 twins", x.told(4), 2);
        T.due("6 families at last", x.told(2), 5);
    }

    private static void number() {
        MatrixKin x = new MatrixKin();
        x.put(3, -7, 1, -2);
        int[] want = {1000003, 999993, 1000001, 999998};
        for (int what = 0; what < 4; what++) {
            T.due("7 number " + what, x.number(0, what), want[what]);
        }
        T.due("7 what below", x.number(0, -1), MatrixKin.OUTSIDE);
        T.due("7 what above", x.number(0, 4), MatrixKin.OUTSIDE);
        T.due("7 unknown", x.number(1, 0), MatrixKin.UNKNOWN);
        T.due("7 unknown below", x.number(-1, 0), MatrixKin.UNKNOWN);
        T.due("7 unknown ahead of outside", x.number(1, 4), MatrixKin.UNKNOWN);
        x.put(-1000000, 1, -1, 0);
        T.due("7 least number", x.number(1, 0), 0);
    }

    private static void answers(String name, MatrixKin x, int s, int... want) {
        for (int what = 0; what < want.length; what++) {
            T.due("8 " + name + " square(" + s + ", " + what + ")", x.square(s, what), want[what]);
        }
    }

    private static void squareOfKindOne() {
        MatrixKin x = new MatrixKin();
        x.put(1, 0, 0, 1);
        x.put(-1, 0, 0, -1);
        answers("the one", x, 0, 0, 2000002, 2, 1, 0, 0, 0, 1, 1, 1, 0);
        answers("the one changed", x, 1, 0, 1999998, 0, 2, 0, 0, 0, 1, 2, 1, 0);
    }

    private static void squareOfRound() {
        MatrixKin x = new MatrixKin();
        Due.write(x, "S");
        Due.write(x, "s");
        x.put(0, -1, 1, 1);
        x.put(0, -1, 1, -1);
        x.put(5, -26, 1, -5);
        x.put(3, 13, -1, -4);
        answers("S", x, 0, 1, 2000000, 2, 4, 0, 0, 0, 0, 0b10001, 0, 0);
        answers("s", x, 1, 1, 2000000, 2, 4, 0, 0, 0, 0, 0b10, 0, 0);
        answers("order 6", x, 2, 1, 2000001, 2, 6, 0, 0, 0, 0, 0b100, 0, 0);
        answers("order 3", x, 3, 1, 1999999, 0, 3, 0, 0, 0, 0, 0b1000, 0, 0);
        answers("order 4", x, 4, 1, 2000000, 2, 4, 0, 0, 0, 0, 0b10001, 0, 0);
        answers("order 3 the other way", x, 5, 1, 1999999, 0, 3, 0, 0, 0, 0, 0b100000, 0, 0);
    }

    private static void squareOfShift() {
        MatrixKin x = new MatrixKin();
        x.put(1, 1000000, 0, 1);
        x.put(1, 0, 1000000, 1);
        x.put(-1, 5, 0, -1);
        x.put(-1, 0, 5, -1);
        // Along 2, 3 by 7: 1 - 42, 28, -63, 1 + 42.
        x.put(-41, 28, -63, 43);
        x.put(1, 7, 0, 1);
        x.put(41, -28, 63, -43);
        answers("by 1000000", x, 0, 2, 2000002, 2, -1, 4000000, 0, 0, 0, 1, 0, 0);
        answers("by -1000000", x, 1, 2, 2000002, 2, -1, 2000000, 0, 0, 0, 2, 0, 0);
        answers("changed by -5", x, 2, 2, 1999998, 0, -1, 2999995, 0, 0, 0, 4, 0, 0);
        answers("changed by 5", x, 3, 2, 1999998, 0, -1, 3000005, 0, 0, 0, 8, 0, 0);
        answers("by 7", x, 4, 2, 2000002, 2, -1, 3000007, 0, 0, 0, 0b110000, 0, 0);
        answers("by 7 plainly", x, 5, 2, 2000002, 2, -1, 3000007, 0, 0, 0, 0b110000, 0, 0);
        answers("changed by 7", x, 6, 2, 1999998, 0, -1, 3000007, 0, 0, 0, 0b1000000, 0, 0);
    }

    private static void squareOfStretch() {
        MatrixKin x = new MatrixKin();
        Due.write(x, "RL");
        Due.write(x, "RRLRRL");
        Due.write(x, "RLRRLL");
        Due.write(x, "SSRL");
        answers("RL", x, 0, 3, 2000003, 2, -1, 0, 2, 1, 1, 1, 1, 2);
        answers("RRLRRL", x, 1, 3, 2000014, 2, -1, 0, 4, 2, 0, 2, 0, 6);
        // The wheel 1 1 2 2 is that of its back, but a glass shows 1 2 2 1.
        answers("RLRRLL", x, 2, 3, 2000015, 2, -1, 0, 4, 1, 1, 4, 0, 6);
        answers("RL changed", x, 3, 3, 1999997, 0, -1, 0, 2, 1, 1, 8, 1, 2);
        answers("neither", wheelOf("RRRLLRLL"), 0, 3, 2000030, 2, -1, 0, 4, 1, 0, 1, 0, 8);
        answers("RRRLLL", wheelOf("RRRLLL"), 0, 3, 2000011, 2, -1, 0, 2, 1, 1, 1, 1, 6);
        // 1 2 3 1 2 3: three runs come again, but the first time with R and then with L: no row of the wheel.
        answers("mirrored alone", wheelOf("RLLRRRLRRLLL"), 0, 3, 2000146, 2, -1, 0, 6, 1, 0, 1, 1, 12);
        answers("thrice", wheelOf("LRLRLR"), 0, 3, 2000018, 2, -1, 0, 6, 3, 1, 1, 1, 6);
        MatrixKin y = new MatrixKin();
        y.put(1000000, 333333, 3, 1);
        answers("long runs", y, 0, 3, 3000001, 2, -1, 0, 2, 1, 0, 1, 0, 333336);
    }

    private static MatrixKin wheelOf(String letters) {
        MatrixKin x = new MatrixKin();
        Due.write(x, letters);
        return x;
    }

    private static void squareWheelTurned() {
        MatrixKin x = new MatrixKin();
        Due.write(x, "LLRRRLR");
        T.due("9 wheel begins least", x.run(0, 0), 1);
        T.due("9 run 1", x.run(0, 1), 2);
        T.due("9 run 2", x.run(0, 2), 3);
        T.due("9 run 3", x.run(0, 3), 1);
    }

    private static void wheels(String name, MatrixKin x, int s, int... want) {
        T.due("8 RUNS of " + name, x.square(s, 5), want.length);
        for (int k = 0; k < want.length; k++) {
            T.due("9 run " + k + " of " + name, x.run(s, k), want[k]);
        }
        T.due("9 behind the last of " + name, x.run(s, want.length), MatrixKin.NONE);
    }

    private static void squareSeenElsewhere() {
        MatrixKin x = new MatrixKin();
        x.put(31, -43, -18, 25);
        wheels("one with b, c below 0", x, 0, 1, 1, 2, 2, 1, 2);
        // RRL carried over by R 996 times, then by S; the second row is the same CHANGED.
        x.put(999, -994006, 1, -995);
        wheels("one far along", x, 1, 2, 1);
        x.put(-999, 994006, -1, 995);
        wheels("it changed", x, 2, 2, 1);
        x.put(-995, -1, 994006, 999);
        wheels("it carried on", x, 3, 2, 1);
        x.put(-987, -978118, 1, 991);
        wheels("one far the other way", x, 4, 2, 1);
        T.due("8 their family", x.square(1, 8), 0b11010);
        Due.write(x, "RL");
        x.raise(5, 14);
        int[] ones = new int[28];
        Arrays.fill(ones, 1);
        wheels("the longest", x, 5, ones);
        T.due("8 TIMES of the longest", x.square(5, 6), 14);
    }

    private static void squareRefusals() {
        MatrixKin x = wheelOf("RL");
        T.due("8 what below", x.square(0, -1), MatrixKin.OUTSIDE);
        T.due("8 what above", x.square(0, 11), MatrixKin.OUTSIDE);
        T.due("8 unknown", x.square(1, 0), MatrixKin.UNKNOWN);
        T.due("8 unknown below", x.square(-1, 0), MatrixKin.UNKNOWN);
        T.due("8 unknown ahead of outside", x.square(12, 11), MatrixKin.UNKNOWN);
    }

    private static void run() {
        MatrixKin x = wheelOf("RRRLLRL");
        int[] want = {1, 1, 3, 2, MatrixKin.NONE, MatrixKin.NONE};
        for (int k = 0; k < want.length; k++) {
            T.due("9 run " + k, x.run(0, k), want[k]);
        }
        T.due("9 k below", x.run(0, -1), MatrixKin.NONE);
        T.due("9 k far", x.run(0, Integer.MAX_VALUE), MatrixKin.NONE);
        T.due("9 unknown", x.run(1, 0), MatrixKin.UNKNOWN);
        T.due("9 unknown below", x.run(-1, 0), MatrixKin.UNKNOWN);
        Due.write(x, "R");
        Due.write(x, "S");
        Due.write(x, "");
        for (int s = 1; s <= 3; s++) {
            T.due("9 no stretch " + s, x.run(s, 0), MatrixKin.NONE);
        }
        x.put(-2, -1, -1, -1);
        T.due("9 below 0", x.run(4, 0) * 10 + x.run(4, 1), 11);
        T.due("9 below 0, the end", x.run(4, 2), MatrixKin.NONE);
    }
}
