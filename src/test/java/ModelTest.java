import java.util.Random;

/** Runs of calls by chance, always the same ones, each answer compared with that of the plain model. */
public final class ModelTest {
    private static final int RUNS = 4000;
    // The document promises nothing behind an object's 512th call; one step below makes 43 calls at most.
    private static final int CALLS = 512;
    private static final int CALLS_OF_A_STEP = 43;
    private static final int[] FAR = {-1, -2, 12, 13, 21, 255, 256, 1000001, -1000001, Integer.MAX_VALUE, Integer.MIN_VALUE};
    private static final Due T = new Due();

    private final Random chance;
    private final MatrixKin real = new MatrixKin();
    private final PlainModel model = new PlainModel();
    private final boolean isTame;
    private final StringBuilder history = new StringBuilder();
    private int calls = 0;

    private ModelTest(int number) {
        chance = new Random(number);
        isTame = number % 3 == 0;
    }

    public static void main(String[] args) {
        for (int number = 0; number < RUNS && !T.hasWrong(); number++) {
            ModelTest test = new ModelTest(number);
            while (test.calls + CALLS_OF_A_STEP <= CALLS && !T.hasWrong()) {
                test.step();
            }
            T.holds("no more than 512 calls", test.calls <= CALLS);
            if (T.hasWrong()) {
                System.out.println("run " + number + ":" + test.history);
            }
        }
        T.end();
    }

    private void due(String call, long got, long want) {
        calls++;
        history.append(' ').append(call).append('=').append(got);
        T.due(call, got, want);
    }

    private int upTo(int most) {
        return chance.nextInt(25) == 0 ? FAR[chance.nextInt(FAR.length)] : chance.nextInt(most + 1);
    }

    private int some() {
        int size = (int) Math.max(1, model.told(0));
        return chance.nextInt(30) == 0 ? upTo(12) : chance.nextInt(size);
    }

    private void step() {
        switch (chance.nextInt(34)) {
            case 0, 1 -> write();
            case 2, 3 -> put();
            case 4, 5 -> told(upTo(7));
            case 6 -> number(some(), upTo(3));
            case 7, 8, 9, 10, 11, 12, 13 -> square(some(), upTo(10));
            case 14, 15 -> run(some(), upTo(8));
            case 16 -> multiply(some(), some());
            case 17 -> back(some());
            case 18 -> carry(some(), some());
            case 19 -> raise(some(), chance.nextBoolean() ? upTo(4) : upTo(20));
            case 20, 21 -> take(some());
            case 22 -> drift(upTo(chance.nextInt(12) + 1));
            case 23 -> undo(upTo(chance.nextInt(20) + 1));
            case 24, 25, 26 -> pair(some(), some(), upTo(2));
            case 27 -> note(some(), some(), chance.nextBoolean());
            case 28 -> noteRightly(some(), some());
            case 29 -> told(6);
            case 30 -> rare();
            case 31 -> feed(chance.nextInt(10) == 0 ? upTo(255) : "RLrlSs".charAt(chance.nextInt(6)));
            case 32 -> turned();
            default -> due("fault()", real.fault(), model.fault());
        }
    }

    private void rare() {
        int i = chance.nextInt(10) == 0 ? upTo(2) : chance.nextInt(2);
        switch (chance.nextInt(6)) {
            case 0 -> due("tear()", real.tear(), model.tear());
            case 1, 2 -> {
                int v = chance.nextInt();
                due("seed(" + v + ")", real.seed(v), model.seed(v));
            }
            case 3 -> due("keep(" + i + ")", real.keep(i), model.keep(i));
            default -> due("goBack(" + i + ")", real.goBack(i), model.goBack(i));
        }
    }

    private void feed(int letter) {
        due("feed(" + letter + ")", real.feed(letter), model.feed(letter));
    }

    private void write() {
        String letters = chance.nextBoolean() ? "RL" : chance.nextInt(20) == 0 ? "RLrlSsx" : "RLrlSs";
        int length = chance.nextInt(isTame ? 8 : 40);
        for (int i = 0; i < length; i++) {
            feed(letters.charAt(chance.nextInt(letters.length())));
        }
        due("write()", real.write(), model.write());
    }

    /** Numbers with a d less b c 1, often great ones, and sometimes one of them spoilt. */
    private void put() {
        int[] x = isTame ? ofRuns(4, 3) : ofRuns(1 + chance.nextInt(12), 1 << chance.nextInt(20));
        if (chance.nextInt(12) == 0) {
            x[chance.nextInt(4)] += chance.nextInt(5) - 2;
        }
        put(x);
    }

    private void put(int[] x) {
        due("put(" + x[0] + ", " + x[1] + ", " + x[2] + ", " + x[3] + ")",
            real.put(x[0], x[1], x[2], x[3]), model.put(x[0], x[1], x[2], x[3]));
    }

    private int[] ofRuns(int count, int longest) {
        long a = 1;
        long b = 0;
        long c = 0;
        long d = 1;
        boolean hasSigns = chance.nextBoolean();
        for (int i = 0; i < count; i++) {
            long n = 1 + chance.nextInt(longest);
            n = hasSigns && chance.nextBoolean() ? -n : n;
            long newA = i % 2 == 0 ? a : a + n * b;
            long newB = i % 2 == 0 ? b + n * a : b;
            long newC = i % 2 == 0 ? c : c + n * d;
            long newD = i % 2 == 0 ? d + n * c : d;
            if (Math.max(Math.max(Math.abs(newA), Math.abs(newB)), Math.max(Math.abs(newC), Math.abs(newD))) > 1000000) {
                break;
            }
            a = newA;
            b = newB;
            c = newC;
            d = newD;
        }
        boolean isChanged = chance.nextInt(4) == 0;
        return isChanged ? new int[] {(int) -a, (int) -b, (int) -c, (int) -d} : new int[] {(int) a, (int) b, (int) c, (int) d};
    }

    /** A product of R and L turned by some letters, so that BEGINS has something to find. */
    private void turned() {
        int length = 2 + chance.nextInt(isTame ? 5 : 18);
        StringBuilder text = new StringBuilder();
        for (int i = 0; i < length; i++) {
            text.append(chance.nextInt(3) == 0 && i > 0 ? text.charAt(i - 1) : "RL".charAt(chance.nextInt(2)));
        }
        String twice = chance.nextInt(3) == 0 && length < 10 ? text.toString() + text : text.toString();
        int by = chance.nextInt(twice.length());
        for (String one : new String[] {twice, twice.substring(by) + twice.substring(0, by)}) {
            for (int i = 0; i < one.length(); i++) {
                feed(one.charAt(i));
            }
            due("write()", real.write(), model.write());
        }
        int size = (int) model.told(0);
        pair(size - 2, size - 1, 2);
        pair(size - 1, size - 2, 2);
    }

    private void told(int what) {
        due("told(" + what + ")", real.told(what), model.told(what));
    }

    private void number(int s, int what) {
        due("number(" + s + ", " + what + ")", real.number(s, what), model.number(s, what));
    }

    private void square(int s, int what) {
        due("square(" + s + ", " + what + ")", real.square(s, what), model.square(s, what));
    }

    private void run(int s, int k) {
        due("run(" + s + ", " + k + ")", real.run(s, k), model.run(s, k));
    }

    private void multiply(int a, int b) {
        due("multiply(" + a + ", " + b + ")", real.multiply(a, b), model.multiply(a, b));
    }

    private void back(int s) {
        due("back(" + s + ")", real.back(s), model.back(s));
    }

    private void carry(int s, int b) {
        due("carry(" + s + ", " + b + ")", real.carry(s, b), model.carry(s, b));
    }

    private void raise(int s, int n) {
        due("raise(" + s + ", " + n + ")", real.raise(s, n), model.raise(s, n));
    }

    private void take(int s) {
        due("take(" + s + ")", real.take(s), model.take(s));
    }

    private void drift(int n) {
        due("drift(" + n + ")", real.drift(n), model.drift(n));
    }

    private void undo(int n) {
        due("undo(" + n + ")", real.undo(n), model.undo(n));
    }

    private void pair(int s, int u, int what) {
        due("pair(" + s + ", " + u + ", " + what + ")", real.pair(s, u, what), model.pair(s, u, what));
    }

    private void note(int s, int u, boolean alike) {
        due("note(" + s + ", " + u + ", " + alike + ")", real.note(s, u, alike), model.note(s, u, alike));
    }

    private void noteRightly(int s, int u) {
        note(s, u, model.pair(s, u, 0) == 1);
    }
}
