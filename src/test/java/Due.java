/** Counts the answers of one test that are not the ones that are due. */
final class Due {
    private static final int SHOWN_AT_MOST = 40;

    private int asked = 0;
    private int wrong = 0;
    private String sentence = "";

    /** The sentence of the document that the answers from now on are due by; told with each that is not. */
    void sentence(String words) {
        sentence = words;
    }

    void due(String call, long got, long want) {
        asked++;
        if (got != want) {
            wrong++;
            if (wrong <= SHOWN_AT_MOST) {
                String told = sentence.isEmpty() ? "" : " [" + sentence + "]";
                System.out.println(call + " answered " + got + ", due is " + want + told);
            }
        }
    }

    void holds(String what, boolean isSo) {
        due(what, isSo ? 1 : 0, 1);
    }

    boolean hasWrong() {
        return wrong != 0;
    }

    void end() {
        System.out.println(asked + " answers, " + wrong + " not as due");
        if (wrong != 0) {
            System.exit(1);
        }
    }

    /** Feeds a text letter by letter. */
    static void feed(MatrixKin x, String letters) {
        for (int i = 0; i < letters.length(); i++) {
            x.feed(letters.charAt(i));
        }
    }

    /** Feeds a text and writes it: what write() answers. */
    static int write(MatrixKin x, String letters) {
        feed(x, letters);
        return x.write();
    }

    /** Whether the square has these numbers. */
    static boolean isSquare(MatrixKin x, int s, int a, int b, int c, int d) {
        return x.number(s, 0) == a + 1000000 && x.number(s, 1) == b + 1000000
            && x.number(s, 2) == c + 1000000 && x.number(s, 3) == d + 1000000;
    }
}
