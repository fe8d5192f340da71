/** Promises 21 to 24: melts, then, lasts, least. */
public final class LeftTest {
    private static final Due DUE = new Due();

    /** By how many all melt in weeks 0 to 5 with straw 4, 5 and 8, kind by kind. */
    private static void melts() {
        int[][][] due = {
            {{1, 1, 1, 1, 1, 1}, {0, 1, 0, 1, 0, 1}, {0, 1, 0, 1, 0, 1}},
            {{0, 1, 1, 0, 1, 1}, {0, 1, 0, 0, 0, 1}, {0, 1, 0, 0, 0, 1}},
            {{2, 2, 2, 2, 2, 2}, {1, 2, 1, 2, 1, 2}, {1, 2, 1, 2, 1, 2}},
            {{0, 0, 0, 0, 0, 0}, {0, 0, 0, 0, 0, 0}, {0, 0, 0, 0, 0, 0}},
            {{0, 1, 1, 0, 1, 1}, {0, 1, 0, 0, 0, 1}, {0, 0, 0, 0, 0, 0}},
            {{2, 2, 2, 2, 2, 2}, {1, 2, 1, 2, 1, 2}, {1, 2, 1, 2, 1, 2}},
        };
        int[] straws = {4, 5, 8};
        for (int kind = 0; kind < 6; kind++) {
            HailCellar x = new HailCellar();
            for (int i = 0; i < 3; i++) {
                x.cellar(kind, straws[i]);
                for (int w = 0; w < 6; w++) {
                    DUE.be("kind " + kind + ": melts(" + i + ", " + w + ")", x.melts(i, w), due[kind][i][w]);
                    DUE.be("six weeks on, and on", x.melts(i, w + 990), due[kind][i][w]);
                }
            }
            x.straw(0, 7);
            DUE.be("straw 7 is as 5", x.melts(0, 5), due[kind][1][5]);
            DUE.be("melts(0, 999)", x.melts(0, 999), due[kind][1][3]);
            DUE.be("melts(0, 1000)", x.melts(0, 1000), -2);
            DUE.be("melts(0, -1)", x.melts(0, -1), -2);
            DUE.be("melts(3, 0)", x.melts(3, 0), -2);
            DUE.be("melts(-1, 0)", x.melts(-1, 0), -2);
        }
    }

    private static void then() {
        HailCellar x = new HailCellar();
        x.cellar(1, 0);
        for (int r = 1; r <= 9; r++) {
            x.stones(0, r, r);
        }
        int[] atOnce = {45, 6, 15, 24, 9};
        // two doors ahead of each of two weeks, which melt by 0 and 1: 5 rings less
        int[] behindTwo = {30, 21, 9, 0, 4};
        for (int what = 0; what <= 4; what++) {
            DUE.be("then(0, 0, 9, " + what + ")", x.then(0, 0, 9, what), atOnce[what]);
            DUE.be("then(0, 2, 2, " + what + ")", x.then(0, 2, 2, what), behindTwo[what]);
            DUE.be("then(0, 60, 9, " + what + ")", x.then(0, 60, 9, what), 0);
        }
        DUE.be("9 rings less at once: then(0, 1, 9, 0)", x.then(0, 1, 9, 0), 0);
        DUE.be("8 rings less: then(0, 1, 8, 0)", x.then(0, 1, 8, 0), 9);
        x.week(1);
        DUE.be("from the week on that it is: week 1", x.then(0, 1, 0, 4), 8);
        DUE.be("from the week on that it is: weeks 1, 2", x.then(0, 2, 0, 4), 7);
        DUE.be("from the week on that it is: weeks 1, 2, 3", x.then(0, 3, 0, 4), 7);
        DUE.be("from the week on that it is: lasts", x.lasts(0, 8), 2);
        DUE.be("from the week on that it is: lasts", x.lasts(0, 7), 4);
        DUE.be("from the week on that it is: least", x.least(0, 8, 2), 5);
        DUE.be("nothing is changed", x.count(5), 45);
        int[][] wrong = {{-1, 0, 0, 0}, {1, 0, 0, 0}, {0, -1, 0, 0}, {0, 61, 0, 0}, {0, 0, -1, 0}, {0, 0, 10, 0}, {0, 0, 0, -1}, {0, 0, 0, 5}};
        for (int[] w : wrong) {
            DUE.be("then " + w[0] + " " + w[1] + " " + w[2] + " " + w[3], x.then(w[0], w[1], w[2], w[3]), -2);
        }
        HailCellar y = new HailCellar();
        y.cellar(4, 0);
        y.stones(0, 9, 1);
        DUE.be("a well's doors cost nothing", y.then(0, 1, 9, 4), 9);
        y.cellar(5, 0);
        y.stones(1, 9, 1);
        DUE.be("wine: a door 2, a week 2", y.then(1, 1, 3, 4), 1);
    }

    private static void lasts() {
        HailCellar x = new HailCellar();
        x.cellar(1, 0);
        DUE.be("lasts, no stones", x.lasts(0, 1), 0);
        x.stones(0, 4, 1);
        DUE.be("lasts(0, 5)", x.lasts(0, 5), 0);
        DUE.be("lasts(0, 4): weeks 0, 1", x.lasts(0, 4), 2);
        DUE.be("lasts(0, 3)", x.lasts(0, 3), 3);
        DUE.be("lasts(0, 2)", x.lasts(0, 2), 5);
        DUE.be("lasts(0, 1)", x.lasts(0, 1), 6);
        x.straw(0, 5);
        DUE.be("with straw: weeks 1, 5, 7, 11", x.lasts(0, 1), 12);
        x.cellar(3, 0);
        x.stones(1, 1, 1);
        DUE.be("none in a church", x.lasts(1, 1), -1);
        DUE.be("lasts(0, 0)", x.lasts(0, 0), -2);
        DUE.be("lasts(0, 10)", x.lasts(0, 10), -2);
        DUE.be("lasts(2, 1)", x.lasts(2, 1), -2);
        DUE.be("lasts(-1, 1)", x.lasts(-1, 1), -2);
    }

    private static void beyond999() {
        HailCellar x = new HailCellar();
        for (int i = 0; i < 17; i++) {
            x.week(60);
        }
        x.cellar(0, 5);
        x.stones(0, 9, 1);
        // weeks 999, 1001, 1003, .. melt
        DUE.be("then beyond 999", x.then(0, 5, 0, 4), 6);
        DUE.be("lasts beyond 999", x.lasts(0, 1), 17);
        DUE.be("least beyond 999", x.least(0, 5, 8), 5);
        DUE.be("least beyond 999", x.least(0, 9, 1), -1);
    }

    private static void least() {
        HailCellar x = new HailCellar();
        x.cellar(0, 9);
        DUE.be("least, no stones", x.least(0, 1, 0), -1);
        x.stones(0, 6, 1);
        DUE.be("least(0, 6, 0)", x.least(0, 6, 0), 0);
        DUE.be("least(0, 7, 0)", x.least(0, 7, 0), -1);
        DUE.be("least(0, 6, 1): week 0 melts none by straw 5", x.least(0, 6, 1), 5);
        DUE.be("least(0, 5, 1)", x.least(0, 5, 1), 0);
        DUE.be("least(0, 6, 2)", x.least(0, 6, 2), -1);
        DUE.be("least(0, 1, 60)", x.least(0, 1, 60), -1);
        x.cellar(4, 0);
        x.stones(1, 2, 1);
        DUE.be("a well by 8", x.least(1, 2, 60), 8);
        DUE.be("a well by 5: weeks 1, 2", x.least(1, 1, 3), 5);
        int[][] wrong = {{-1, 1, 0}, {2, 1, 0}, {0, 0, 0}, {0, 10, 0}, {0, 1, -1}, {0, 1, 61}};
        for (int[] w : wrong) {
            DUE.be("least " + w[0] + " " + w[1] + " " + w[2], x.least(w[0], w[1], w[2]), -2);
        }
    }

    public static void main(String[] args) {
        melts();
        then();
        lasts();
        beyond999();
        least();
        DUE.end("LeftTest");
    }
}
