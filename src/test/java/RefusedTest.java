import java.util.ArrayList;
import java.util.List;
import java.util.function.Consumer;
import java.util.function.Supplier;
import java.util.function.ToIntFunction;

/**
 * "What is refused changes nothing", and nothing changes by what is ASKED: each such call is made on one of two objects
 * that are otherwise used alike, and whatever both are asked and made to do from then on is answered alike.
 */
public final class RefusedTest {
    private static final int MOST = Squares.MOST;
    private static final int LOW = Integer.MIN_VALUE;
    private static final int HIGH = Integer.MAX_VALUE;
    private static final Due T = new Due();

    private static String state = "";
    private static Supplier<MatrixKin> made = MatrixKin::new;

    public static void main(String[] args) {
        in("empty", MatrixKin::new);
        refusedAnywhere();
        refusedWhenEmpty();
        in("in use", RefusedTest::inUse);
        refusedAnywhere();
        asked();
        refusedInUse();
        in("full", RefusedTest::full);
        refusedAnywhere();
        asked();
        refusedWhenFull();
        T.end();
    }

    private static void in(String name, Supplier<MatrixKin> maker) {
        state = name;
        made = maker;
    }

    // ---- states

    /** Some of everything: squares near the bounds, letters, entries, deeds, a seed, an image 1 but no image 0. */
    private static MatrixKin inUse() {
        MatrixKin x = new MatrixKin();
        x.seed(4711);
        x.drift(2);
        x.keep(1);
        x.seed(815);
        Due.write(x, "RRL");
        Due.write(x, "LRR");
        x.put(1, MOST, 0, 1);
        x.put(999999, MOST, 999998, 999999);
        x.put(0, -1, 1, 0);
        x.back(0);
        x.note(2, 3, true);
        x.note(0, 6, true);
        x.note(4, 5, false);
        Due.write(x, "RLR?");
        Due.feed(x, "LLR");
        return x;
    }

    /** Twelve squares, sixty letters, twenty entries, twenty deeds, both images. */
    private static MatrixKin full() {
        MatrixKin x = new MatrixKin();
        x.seed(99);
        x.drift(3);
        x.keep(0);
        x.drift(2);
        x.keep(1);
        Due.write(x, "R?");
        x.put(1, MOST, 0, 1);
        x.put(999999, MOST, 999998, 999999);
        x.put(0, -1, 1, 0);
        for (int s = 8; s < 12; s++) {
            x.put(1, s, 0, 1);
        }
        for (int i = 0; i < 16; i++) {
            x.back(i % 12);
        }
        for (int i = 0; i < 20; i++) {
            x.note(i % 12, 11 - i / 2, i % 2 == 0);
        }
        Due.feed(x, "R".repeat(59) + "?");
        return x;
    }

    // ---- what is found out of an object

    private static List<Integer> shown(MatrixKin x) {
        List<Integer> answers = new ArrayList<>();
        for (int what = 0; what < 8; what++) {
            answers.add(x.told(what));
        }
        answers.add(x.fault());
        for (int s = 0; s < 12; s++) {
            for (int place = 0; place < 4; place++) {
                answers.add(x.number(s, place));
            }
        }
        return answers;
    }

    /** Ways to bring out what is not shown: the past, the images, the seed, the letters, the entries. */
    private static List<Consumer<MatrixKin>> ways() {
        List<Consumer<MatrixKin>> ways = new ArrayList<>();
        ways.add(x -> { });
        for (int n = 1; n <= 20; n++) {
            int deeds = n;
            ways.add(x -> x.undo(deeds));
        }
        ways.add(x -> x.goBack(0));
        ways.add(x -> x.goBack(1));
        ways.add(x -> x.drift(2));
        ways.add(x -> {
            x.take(0);
            x.drift(1);
        });
        ways.add(x -> {
            x.take(0);
            x.write();
        });
        ways.add(x -> {
            x.take(0);
            x.feed('S');
            x.write();
        });
        for (int n = 1; n <= 12; n++) {
            int gone = n;
            ways.add(x -> {
                for (int i = 0; i < gone; i++) {
                    x.take(0);
                }
            });
            ways.add(x -> {
                for (int i = 0; i < gone; i++) {
                    x.raise(i, 0);
                }
            });
        }
        return ways;
    }

    private static void leavesAll(String name, ToIntFunction<MatrixKin> call) {
        for (Consumer<MatrixKin> way : ways()) {
            MatrixKin touched = made.get();
            MatrixKin untouched = made.get();
            call.applyAsInt(touched);
            way.accept(touched);
            way.accept(untouched);
            List<Integer> after = shown(touched);
            List<Integer> without = shown(untouched);
            after.add(touched.seed(0));
            without.add(untouched.seed(0));
            T.holds(state + ": nothing changes by " + name, after.equals(without));
        }
    }

    private static void refused(String name, int want, ToIntFunction<MatrixKin> call) {
        T.due(state + ": " + name, call.applyAsInt(made.get()), want);
        leavesAll(name, call);
    }

    // ---- calls

    private static void refusedAnywhere() {
        T.sentence("What is refused changes nothing.");
        for (int letter : new int[] {-1, 256, LOW, HIGH}) {
            refused("feed(" + letter + ")", MatrixKin.OUTSIDE, x -> x.feed(letter));
        }
        refused("put of 1000001", MatrixKin.OUTSIDE, x -> x.put(1, MOST + 1, 0, 1));
        refused("put of -1000001", MatrixKin.OUTSIDE, x -> x.put(-MOST - 1, 1, -1, 0));
        refused("put of 2", MatrixKin.NOT, x -> x.put(1, 0, 0, 2));
        for (int what : new int[] {-1, 8, LOW, HIGH}) {
            refused("told(" + what + ")", MatrixKin.OUTSIDE, x -> x.told(what));
        }
        for (int s : new int[] {-1, 12, LOW, HIGH}) {
            unknown(s);
        }
        for (int n : new int[] {0, 13, -1, LOW, HIGH}) {
            refused("drift(" + n + ")", MatrixKin.OUTSIDE, x -> x.drift(n));
        }
        for (int n : new int[] {0, 21, -1, LOW, HIGH}) {
            refused("undo(" + n + ")", MatrixKin.OUTSIDE, x -> x.undo(n));
        }
        for (int v : new int[] {-1, LOW}) {
            refused("seed(" + v + ")", MatrixKin.OUTSIDE, x -> x.seed(v));
        }
        for (int i : new int[] {-1, 2, LOW, HIGH}) {
            refused("keep(" + i + ")", MatrixKin.UNKNOWN, x -> x.keep(i));
            refused("goBack(" + i + ")", MatrixKin.UNKNOWN, x -> x.goBack(i));
        }
    }

    private static void unknown(int s) {
        refused("number(" + s + ", 0)", MatrixKin.UNKNOWN, x -> x.number(s, 0));
        refused("square(" + s + ", 0)", MatrixKin.UNKNOWN, x -> x.square(s, 0));
        refused("run(" + s + ", 0)", MatrixKin.UNKNOWN, x -> x.run(s, 0));
        refused("multiply(" + s + ", 0)", MatrixKin.UNKNOWN, x -> x.multiply(s, 0));
        refused("multiply(0, " + s + ")", MatrixKin.UNKNOWN, x -> x.multiply(0, s));
        refused("back(" + s + ")", MatrixKin.UNKNOWN, x -> x.back(s));
        refused("carry(" + s + ", 0)", MatrixKin.UNKNOWN, x -> x.carry(s, 0));
        refused("carry(0, " + s + ")", MatrixKin.UNKNOWN, x -> x.carry(0, s));
        refused("raise(" + s + ", 2)", MatrixKin.UNKNOWN, x -> x.raise(s, 2));
        refused("take(" + s + ")", MatrixKin.UNKNOWN, x -> x.take(s));
        refused("pair(" + s + ", 0, 0)", MatrixKin.UNKNOWN, x -> x.pair(s, 0, 0));
        refused("pair(0, " + s + ", 0)", MatrixKin.UNKNOWN, x -> x.pair(0, s, 0));
        refused("note(" + s + ", 0)", MatrixKin.UNKNOWN, x -> x.note(s, 0, true));
        refused("note(0, " + s + ")", MatrixKin.UNKNOWN, x -> x.note(0, s, true));
    }

    private static void refusedWhenEmpty() {
        unknown(0);
        refused("undo(1)", MatrixKin.NOT, x -> x.undo(1));
        refused("undo(20)", MatrixKin.NOT, x -> x.undo(20));
        refused("goBack(0)", MatrixKin.NOT, x -> x.goBack(0));
        refused("goBack(1)", MatrixKin.NOT, x -> x.goBack(1));
    }

    private static void refusedInUse() {
        T.sentence("What is refused changes nothing.");
        unknown(7);
        refused("number(0, 4)", MatrixKin.OUTSIDE, x -> x.number(0, 4));
        refused("square(0, 11)", MatrixKin.OUTSIDE, x -> x.square(0, 11));
        refused("pair(0, 1, 3)", MatrixKin.OUTSIDE, x -> x.pair(0, 1, 3));
        refused("multiply(4, 4)", MatrixKin.NOT, x -> x.multiply(4, 4));
        refused("carry(6, 4)", MatrixKin.NOT, x -> x.carry(6, 4));
        refused("carry(6, 5)", MatrixKin.NOT, x -> x.carry(6, 5));
        refused("raise(4, 2)", MatrixKin.NOT, x -> x.raise(4, 2));
        refused("raise(2, 20)", MatrixKin.NOT, x -> x.raise(2, 20));
        refused("raise(2, 21)", MatrixKin.OUTSIDE, x -> x.raise(2, 21));
        refused("raise(2, -1)", MatrixKin.OUTSIDE, x -> x.raise(2, -1));
        refused("undo(7)", MatrixKin.NOT, x -> x.undo(7));
        refused("goBack(0)", MatrixKin.NOT, x -> x.goBack(0));
    }

    private static void refusedWhenFull() {
        T.sentence("What is refused changes nothing.");
        refused("feed('R')", MatrixKin.FULL, x -> x.feed('R'));
        refused("feed('?')", MatrixKin.FULL, x -> x.feed('?'));
        refused("write()", MatrixKin.FULL, x -> x.write());
        refused("put(1, 0, 0, 1)", MatrixKin.FULL, x -> x.put(1, 0, 0, 1));
        refused("multiply(0, 0)", MatrixKin.FULL, x -> x.multiply(0, 0));
        refused("multiply(5, 5)", MatrixKin.FULL, x -> x.multiply(5, 5));
        refused("carry(7, 5)", MatrixKin.NOT, x -> x.carry(7, 5));
        refused("raise(5, 2)", MatrixKin.NOT, x -> x.raise(5, 2));
        refused("note(0, 1, true)", MatrixKin.FULL, x -> x.note(0, 1, true));
        T.sentence("n times, while there is room");
        leavesAll("drift(12) without room", x -> x.drift(12));
    }

    private static void asked() {
        T.sentence("ASKED, nothing changes by it.");
        for (int i = 0; i < 8; i++) {
            int what = i;
            leavesAll("told(" + what + ")", x -> x.told(what));
        }
        for (int i = 0; i < 11; i++) {
            int what = i;
            leavesAll("square(0 .. 6, " + what + ")", x -> {
                for (int s = 0; s < 7; s++) {
                    x.square(s, what);
                }
                return 0;
            });
        }
        for (int i = 0; i < 3; i++) {
            int what = i;
            leavesAll("pair(2, 0 .. 6, " + what + ")", x -> {
                for (int u = 0; u < 7; u++) {
                    x.pair(2, u, what);
                }
                return 0;
            });
        }
        leavesAll("number(0, 3)", x -> x.number(0, 3));
        leavesAll("run(2, 0)", x -> x.run(2, 0));
        leavesAll("run(2, 100)", x -> x.run(2, 100));
        leavesAll("fault()", x -> x.fault());
    }
}
