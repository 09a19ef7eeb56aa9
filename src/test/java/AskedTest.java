/** Promises 17 to 22: asked, the book, images. */
public final class AskedTest {
    private static final Due T = new Due();

    public static void main(String[] args) {
        pairAlike();
        pairGoTogether();
        pairBegins();
        pairBeginsFar();
        pairRefusals();
        note();
        noteJudged();
        tear();
        seed();
        keepAndGoBack();
        imagesAndUndo();
        T.end();
    }

    private static MatrixKin of(String... texts) {
        MatrixKin x = new MatrixKin();
        for (String text : texts) {
            Due.write(x, text);
        }
        return x;
    }

    private static void pairAlike() {
        MatrixKin x = of("RRL", "LRR", "RLL", "SRRLs", "SSRRL", "R", "l", "L", "S", "s", "RSr", "");
        String[] alike = {"0 1", "0 3", "1 3", "5 6", "8 10"};
        for (int s = 0; s < 12; s++) {
            for (int u = 0; u < 12; u++) {
                int want = s == u ? 1 : 0;
                for (String two : alike) {
                    if (two.equals(s + " " + u) || two.equals(u + " " + s)) {
                        want = 1;
                    }
                }
                T.due("17 alike " + s + " " + u, x.pair(s, u, 0), want);
            }
        }
        T.due("17 nothing changes", x.told(0) * 100 + x.told(7), 1212);
    }

    private static void pairGoTogether() {
        MatrixKin x = of("RL", "RLRL", "LR", "", "SS", "R");
        T.due("17 powers", x.pair(0, 1, 1), 1);
        T.due("17 alike only", x.pair(0, 2, 1), 0);
        T.due("17 the one", x.pair(3, 2, 1), 1);
        T.due("17 it changed", x.pair(5, 4, 1), 1);
        T.due("17 itself", x.pair(5, 5, 1), 1);
        T.due("17 not", x.pair(5, 0, 1), 0);
        x.put(1000000, 999999, 1, 1);
        x.put(1, 1000000, 0, 1);
        T.due("17 great ones", x.pair(6, 7, 1), 0);
    }

    private static void pairBegins() {
        MatrixKin x = of("RRRLLRL", "RLLRLRR", "LRLRRRL", "RRL", "SSRRL", "SRRLs", "RRRR", "LLRRRLR", "RLRLRL", "LRLRLR");
        T.due("17 itself", x.pair(0, 0, 2), 0);
        T.due("17 within a run", x.pair(0, 1, 2), 2);
        T.due("17 the rest of the wheel", x.pair(1, 0, 2), 5);
        T.due("17 to a cut run", x.pair(0, 2, 2), 4);
        T.due("17 from a cut run", x.pair(2, 0, 2), 3);
        T.due("17 unlike", x.pair(0, 3, 2), MatrixKin.NONE);
        T.due("17 unlike with the same trace", x.pair(0, 7, 2), MatrixKin.NONE);
        T.due("17 below 0", x.pair(4, 4, 2), MatrixKin.NONE);
        T.due("17 alike, but no product", x.pair(3, 5, 2), MatrixKin.NONE);
        T.due("17 no product to one", x.pair(5, 3, 2), MatrixKin.NONE);
        T.due("17 no stretch", x.pair(6, 6, 2), MatrixKin.NONE);
        T.due("17 at least", x.pair(8, 9, 2), 1);
        T.due("17 at least back", x.pair(9, 8, 2), 1);
    }

    private static void pairBeginsFar() {
        MatrixKin x = new MatrixKin();
        x.put(1000000, 999999, 1, 1);
        x.put(1, 999999, 1, 1000000);
        x.put(600001, 1, 600000, 1);
        T.due("17 far", x.pair(0, 1, 2), 999999);
        T.due("17 not far back", x.pair(1, 0, 2), 1);
        T.due("17 another wheel", x.pair(0, 2, 2), MatrixKin.NONE);
    }

    private static void pairRefusals() {
        MatrixKin x = of("R", "L");
        T.due("17 what below", x.pair(0, 1, -1), MatrixKin.OUTSIDE);
        T.due("17 what above", x.pair(0, 1, 3), MatrixKin.OUTSIDE);
        T.due("17 no first", x.pair(2, 0, 0), MatrixKin.UNKNOWN);
        T.due("17 no second", x.pair(0, 2, 0), MatrixKin.UNKNOWN);
        T.due("17 below", x.pair(-1, 0, 0), MatrixKin.UNKNOWN);
        T.due("17 unknown ahead of outside", x.pair(0, 2, 3), MatrixKin.UNKNOWN);
    }

    private static void note() {
        MatrixKin x = of("R", "l");
        T.due("18 unknown", x.note(2, 0, true), MatrixKin.UNKNOWN);
        T.due("18 unknown second", x.note(0, -1, true), MatrixKin.UNKNOWN);
        for (int i = 1; i <= 20; i++) {
            T.due("18 entry " + i, x.note(i % 2, 1, true), i);
        }
        T.due("18 full", x.note(0, 1, true), MatrixKin.FULL);
        T.due("18 unknown ahead of full", x.note(0, 2, true), MatrixKin.UNKNOWN);
        T.due("18 told", x.told(5), 20);
        T.due("18 none is wrong", x.told(6), MatrixKin.NONE);
        T.due("18 no deed", x.told(7), 2);
    }

    private static void noteJudged() {
        MatrixKin x = of("R", "l", "L", "RL");
        x.note(0, 1, true);
        x.note(0, 2, false);
        x.note(3, 3, true);
        T.due("18 all are right", x.told(6), MatrixKin.NONE);
        x.note(2, 1, true);
        T.due("18 the last is wrong", x.told(6), 3);
        x.back(2);
        T.due("18 the second is wrong now", x.told(6), 1);
        x.undo(1);
        T.due("18 and no more", x.told(6), 3);
        x.take(3);
        T.due("18 one that there is no more", x.told(6), 2);
        x.put(2, 1, 1, 1);
        T.due("18 one is there again", x.told(6), 3);
        T.due("18 the book stays", x.told(5), 4);
        x.note(0, 1, false);
        x.back(0);
        T.due("18 the first is wrong", x.told(6), 0);
    }

    private static void tear() {
        MatrixKin x = of("R", "L");
        T.due("19 none", x.tear(), 0);
        x.note(0, 1, true);
        x.note(0, 1, true);
        T.due("19 two", x.tear(), 2);
        T.due("19 no entries", x.told(5), 0);
        T.due("19 none is wrong", x.told(6), MatrixKin.NONE);
        T.due("19 begins again", x.note(1, 1, true), 1);
    }

    private static void seed() {
        MatrixKin x = new MatrixKin();
        T.due("20 at first", x.seed(2147483647), 0);
        T.due("20 the greatest", x.seed(0), 2147483647);
        T.due("20 below", x.seed(-1), MatrixKin.OUTSIDE);
        T.due("20 far below", x.seed(Integer.MIN_VALUE), MatrixKin.OUTSIDE);
        T.due("20 refused changes nothing", x.seed(9), 0);
        x.drift(3);
        int once = x.number(2, 0);
        x.seed(9);
        x.drift(3);
        T.due("20 the same draws", x.number(5, 0), once);
    }

    private static void keepAndGoBack() {
        MatrixKin x = of("R", "L");
        T.due("21 unknown", x.keep(2), MatrixKin.UNKNOWN);
        T.due("21 below", x.keep(-1), MatrixKin.UNKNOWN);
        T.due("22 unknown", x.goBack(2), MatrixKin.UNKNOWN);
        T.due("22 below", x.goBack(-1), MatrixKin.UNKNOWN);
        T.due("22 not kept", x.goBack(0), MatrixKin.NOT);
        x.seed(41);
        T.due("21 keep", x.keep(0), 1);
        T.due("22 the other is not kept", x.goBack(1), MatrixKin.NOT);
        x.seed(42);
        x.take(0);
        x.raise(0, 2);
        T.due("21 keep the other", x.keep(1), 1);
        x.note(0, 0, true);
        x.feed('R');
        T.due("22 go back", x.goBack(0), 1);
        T.due("22 squares", x.told(0), 2);
        T.holds("22 the first", Due.isSquare(x, 0, 1, 1, 0, 1));
        T.holds("22 the second", Due.isSquare(x, 1, 1, 0, 1, 1));
        T.due("22 its seed", x.seed(1), 41);
        T.due("22 the book stays", x.told(5), 1);
        T.due("22 the text stays", x.told(1), 1);
        x.raise(0, 0);
        T.due("22 to the other", x.goBack(1), 1);
        T.holds("22 its square", Due.isSquare(x, 0, 1, 0, 2, 1));
        T.due("22 its square alone", x.told(0), 1);
        T.due("22 its other seed", x.seed(1), 42);
        T.due("22 once more", x.goBack(0), 1);
        T.holds("22 the image itself stays", Due.isSquare(x, 0, 1, 1, 0, 1));
        x.take(1);
        x.keep(0);
        x.put(1, 0, 0, 1);
        x.goBack(0);
        T.due("21 kept anew", x.told(0), 1);
    }

    private static void imagesAndUndo() {
        MatrixKin x = of("R", "L");
        T.due("21 refused leaves the past", x.keep(2), MatrixKin.UNKNOWN);
        T.due("22 refused leaves the past", x.goBack(1), MatrixKin.NOT);
        T.due("21 two deeds", x.told(7), 2);
        x.keep(0);
        T.due("21 nothing can be undone", x.told(7), 0);
        T.due("21 not", x.undo(1), MatrixKin.NOT);
        x.back(0);
        T.due("21 since the image", x.told(7), 1);
        x.goBack(0);
        T.due("22 nothing can be undone", x.told(7), 0);
        T.due("22 not", x.undo(1), MatrixKin.NOT);
        x.put(0, -1, 1, 0);
        T.due("22 since then", x.undo(1), 2);
    }
}
