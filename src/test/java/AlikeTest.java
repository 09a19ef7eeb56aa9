import java.util.ArrayList;
import java.util.List;

/** ALIKE by its own words, for small squares: some square C with C by A is B by C is looked for among many. */
public final class AlikeTest {
    private static final int SMALL = 7;
    // Wide enough: alike squares of numbers up to 7 are all found with a C of numbers up to 6 already.
    private static final int WIDE = 12;
    private static final Due T = new Due();

    public static void main(String[] args) {
        List<int[]> squares = squaresUpTo(SMALL);
        List<int[]> carriers = squaresUpTo(WIDE);
        for (int[] a : squares) {
            for (int[] b : squares) {
                MatrixKin x = new MatrixKin();
                x.put(a[0], a[1], a[2], a[3]);
                x.put(b[0], b[1], b[2], b[3]);
                T.due("alike " + List.of(a[0], a[1], a[2], a[3]) + " " + List.of(b[0], b[1], b[2], b[3]),
                    x.pair(0, 1, 0), isCarried(a, b, carriers) ? 1 : 0);
            }
        }
        T.end();
    }

    private static List<int[]> squaresUpTo(int most) {
        List<int[]> all = new ArrayList<>();
        for (int a = -most; a <= most; a++) {
            for (int b = -most; b <= most; b++) {
                for (int c = -most; c <= most; c++) {
                    for (int d = -most; d <= most; d++) {
                        if (a * d - b * c == 1) {
                            all.add(new int[] {a, b, c, d});
                        }
                    }
                }
            }
        }
        return all;
    }

    private static boolean isCarried(int[] a, int[] b, List<int[]> carriers) {
        if (a[0] + a[3] != b[0] + b[3]) {
            return false;
        }
        for (int[] c : carriers) {
            if (c[0] * a[0] + c[1] * a[2] == b[0] * c[0] + b[1] * c[2]
                && c[0] * a[1] + c[1] * a[3] == b[0] * c[1] + b[1] * c[3]
                && c[2] * a[0] + c[3] * a[2] == b[2] * c[0] + b[3] * c[2]
                && c[2] * a[1] + c[3] * a[3] == b[2] * c[1] + b[3] * c[3]) {
                return true;
            }
        }
        return false;
    }
}
