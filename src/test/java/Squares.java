import java.math.BigInteger;

/** Squares by their numbers (a, b, c, d), and objects with some on the shelf, for the tests. */
final class Squares {
    static final int MOST = 1000000;
    static final int[] ONE = {1, 0, 0, 1};
    static final int[] ONE_CHANGED = {-1, 0, 0, -1};

    private static final int LETTERS_AT_MOST = 58;

    private Squares() { }

    static MatrixKin written(String... texts) {
        MatrixKin x = new MatrixKin();
        for (String text : texts) {
            Due.write(x, text);
        }
        return x;
    }

    static MatrixKin holding(int[]... squares) {
        MatrixKin x = new MatrixKin();
        for (int[] square : squares) {
            put(x, square);
        }
        return x;
    }

    /** Twelve squares, no two of them alike: shifts by 1, 2, and so on to 12. */
    static MatrixKin full() {
        MatrixKin x = new MatrixKin();
        for (int n = 1; n <= 12; n++) {
            x.put(1, n, 0, 1);
        }
        return x;
    }

    static int put(MatrixKin x, int[] q) {
        return x.put(q[0], q[1], q[2], q[3]);
    }

    static boolean isAt(MatrixKin x, int s, int[] q) {
        return Due.isSquare(x, s, q[0], q[1], q[2], q[3]);
    }

    static int[] changed(int[] q) {
        return new int[] {-q[0], -q[1], -q[2], -q[3]};
    }

    /** What R and L in each other's place make of a square. */
    static int[] swapped(int[] q) {
        return new int[] {q[3], q[2], q[1], q[0]};
    }

    static int[] shift(int n) {
        return new int[] {1, n, 0, 1};
    }

    /** A shift by n along the line of 1, -1. */
    static int[] slantedShift(int n) {
        return new int[] {1 + n, n, -n, 1 - n};
    }

    /** The letters of a product of R and L. */
    static String letters(int[] product) {
        StringBuilder text = new StringBuilder();
        int[] q = product.clone();
        while (q[1] != 0 || q[2] != 0) {
            boolean isR = q[0] >= q[2] && q[1] >= q[3];
            text.append(isR ? 'R' : 'L');
            int row = isR ? 0 : 2;
            q[row] -= q[2 - row];
            q[row + 1] -= q[3 - row];
        }
        return text.toString();
    }

    /** A product of R and L of few letters whose greatest number is n and stands at that place. */
    static int[] withGreatest(int n, int place) {
        for (int q = n / 2; q < n; q++) {
            if (BigInteger.valueOf(q).gcd(BigInteger.valueOf(n)).intValue() == 1) {
                int[] square = place == 0 || place == 3 ? greatestFirst(n, q) : greatestSecond(n, q);
                square = place >= 2 ? swapped(square) : square;
                if (fractionSum(n, q) <= LETTERS_AT_MOST && letters(square).length() <= LETTERS_AT_MOST) {
                    return square;
                }
            }
        }
        throw new IllegalStateException("no such square of few letters");
    }

    private static int[] greatestFirst(int n, int q) {
        long b = n - BigInteger.valueOf(q).modInverse(BigInteger.valueOf(n)).longValue();
        return new int[] {n, (int) b, q, (int) ((1 + b * q) / n)};
    }

    private static int[] greatestSecond(int n, int q) {
        long a = BigInteger.valueOf(q).modInverse(BigInteger.valueOf(n)).longValue();
        return new int[] {(int) a, n, (int) ((a * q - 1) / n), q};
    }

    private static int fractionSum(int n, int q) {
        int sum = 0;
        int greater = n;
        int less = q;
        while (less != 0) {
            sum += greater / less;
            int rest = greater % less;
            greater = less;
            less = rest;
        }
        return sum;
    }
}
