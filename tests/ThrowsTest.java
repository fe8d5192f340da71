/** Promises 25 to 29: throwsOf, reach, turn, meet, doors. */
public final class ThrowsTest {
    private static final Due DUE = new Due();

    private static void throwsOf() {
        HailCellar x = new HailCellar();
        for (int kind = 0; kind < 6; kind++) {
            x.slinger(kind, 2);
        }
        int[] rings = {1, 3, 4, 6, 7, 9};
        int[][] farBy3 = {{2, 4, 5, 7, 8, 10}, {2, 4, 0, 0, 0, 0}, {6, 8, 9, 11, 12, 14}, {0, 1, 2, 4, 5, 7}, {9, 11, 12, 14, 15, 17}, {2, 4, 0, 0, 0, 0}};
        int[][] farBy9 = {{0, 0, 0, 1, 2, 4}, {0, 0, 0, 0, 0, 0}, {4, 4, 4, 5, 6, 8}, {0, 0, 0, 0, 0, 0}, {9, 11, 12, 14, 15, 17}, {0, 0, 0, 0, 0, 0}};
        int[][] hits = {{1, 1, 2, 2, 3, 3}, {3, 3, 4, 4, 5, 5}, {1, 1, 2, 2, 3, 3}, {1, 1, 2, 2, 4, 4}, {1, 1, 2, 2, 3, 3}, {6, 6, 8, 8, 10, 10}};
        for (int kind = 0; kind < 6; kind++) {
            for (int i = 0; i < rings.length; i++) {
                String of = "kind " + kind + ", rings " + rings[i];
                x.wind(3);
                DUE.be("far by wind 3, " + of, x.throwsOf(kind, rings[i], 0), farBy3[kind][i]);
                DUE.be("hits, " + of, x.throwsOf(kind, rings[i], 1), hits[kind][i]);
                x.wind(9);
                DUE.be("far by wind 9, " + of, x.throwsOf(kind, rings[i], 0), farBy9[kind][i]);
            }
        }
        int[][] wrong = {{-1, 1, 0}, {6, 1, 0}, {0, 0, 0}, {0, 10, 0}, {0, 1, -1}, {0, 1, 2}};
        for (int[] w : wrong) {
            DUE.be("throwsOf " + w[0] + " " + w[1] + " " + w[2], x.throwsOf(w[0], w[1], w[2]), -2);
        }
    }

    private static void reach() {
        HailCellar x = new HailCellar();
        x.slinger(0, 2);
        x.slinger(5, 2);
        x.slinger(3, 2);
        x.cloud(6, 1);
        x.cloud(1, 1);
        DUE.be("plain: from 2 rings on", x.reach(0, 0), 1020);
        DUE.be("twin: 2 and 3", x.reach(1, 0), 12);
        x.wind(1);
        DUE.be("plain by wind 1: from 3 on", x.reach(0, 0), 1016);
        DUE.be("hill by wind 1: from 4 on", x.reach(2, 0), 1008);
        DUE.be("near", x.reach(0, 1), 1022);
        x.hour();
        DUE.be("here: by none", x.reach(0, 1), 0);
        DUE.be("nearer", x.reach(0, 0), 1020);
        DUE.be("reach(3, 0)", x.reach(3, 0), -2);
        DUE.be("reach(-1, 0)", x.reach(-1, 0), -2);
        DUE.be("reach(0, 2)", x.reach(0, 2), -2);
        DUE.be("reach(0, -1)", x.reach(0, -1), -2);
    }

    private static void turnIs(HailCellar x, int k, int s, int c, int stones, int rings) {
        DUE.be("turn(" + k + ", " + s + ", " + c + ", 0)", x.turn(k, s, c, 0), stones);
        DUE.be("turn(" + k + ", " + s + ", " + c + ", 1)", x.turn(k, s, c, 1), rings);
    }

    private static void turn() {
        HailCellar x = new HailCellar();
        x.cellar(5, 0);
        x.slinger(0, 9);
        x.slinger(0, 0);
        x.slinger(3, 9);
        x.cloud(9, 7);
        turnIs(x, 0, 0, 0, -1, -1);
        x.stones(0, 9, 2);
        x.stones(0, 8, 1);
        turnIs(x, 0, 0, 0, 3, 26);
        x.stones(0, 1, 5);
        // 3 + 3 + 1: 9 + 8 + 1 rings
        turnIs(x, 0, 0, 0, 3, 18);
        x.stones(0, 4, 2);
        // 3 + 2 + 2: the fewest rings of the ways with 3 stones are 8 + 4 + 4
        turnIs(x, 0, 0, 0, 3, 16);
        x.cloud(9, 6);
        // two eggs
        turnIs(x, 1, 0, 0, 2, 17);
        // each thrown reaches it: of arm 0 only those of 9 rings
        turnIs(x, 1, 1, 0, 2, 18);
        turnIs(x, 0, 1, 0, -1, -1);
        // hill: 4 hits by 7 rings or more
        turnIs(x, 0, 2, 0, 2, 17);
        DUE.be("nothing is changed", x.count(5), 10);
        x.cloud(1, 40);
        turnIs(x, 2, 0, 0, -1, -1);
        x.stones(0, 7, 20);
        turnIs(x, 2, 2, 0, 10, 70);
        // 13 eggs and a pea
        turnIs(x, 2, 0, 0, 14, 7 * 13 + 1);
        x.hour();
        turnIs(x, 2, 2, 0, -1, -1);
        x.throwing(0, 0, 9, 0);
        // 4 more are needed; the door of wine has cost 2 rings: an egg of 7, one that was of 4
        turnIs(x, 0, 0, 0, 2, 7 + 2);
        x.throwing(0, 0, 5, 0);
        x.throwing(0, 0, 3, 0);
        x.throwing(2, 0, 1, 0);
        DUE.be("turned", x.sky(0, 3), 1);
        turnIs(x, 0, 0, 0, 0, 0);
        turnIs(x, 0, 1, 0, 0, 0);
        int[][] wrong = {{-1, 0, 0, 0}, {3, 0, 0, 0}, {0, -1, 0, 0}, {0, 3, 0, 0}, {0, 0, -1, 0}, {0, 0, 1, 0}, {0, 0, 0, -1}, {0, 0, 0, 2}};
        for (int[] w : wrong) {
            DUE.be("turn " + w[0] + " " + w[1] + " " + w[2] + " " + w[3], x.turn(w[0], w[1], w[2], w[3]), -2);
        }
    }

    /** Fewer stones come ahead of fewer rings, and hits above those needed cost nothing. */
    private static void turnByManyPeas() {
        HailCellar x = new HailCellar();
        x.cellar(3, 0);
        x.slinger(5, 9);
        x.cloud(10, 40);
        x.stones(0, 1, 3);
        x.stones(0, 3, 99);
        turnIs(x, 0, 0, 0, 7, 3 + 4 * 3);
        x.stones(0, 9, 9);
        turnIs(x, 0, 0, 0, 7, 3 + 4 * 3);
        x.slinger(0, 9);
        turnIs(x, 0, 1, 0, 22, 9 * 9 + 13 * 3 - 3 * 2);
    }

    private static void meetBad() {
        HailCellar x = new HailCellar();
        DUE.be("no clouds", x.meet(1, -1), -1);
        DUE.be("no clouds, whatever s is", x.meet(1, 77), -1);
        DUE.be("meet(0, -1)", x.meet(0, -1), -10);
        DUE.be("meet(10, -1)", x.meet(10, -1), -10);
        DUE.be("counts as BAD", x.status(0), 2);
        x.cloud(3, 3);
        DUE.be("no slingers", x.meet(1, -1), 0);
        DUE.be("meet(1, 0)", x.meet(1, 0), -10);
        DUE.be("meet(1, -2)", x.meet(1, -2), -10);
        x.slinger(0, 0);
        DUE.be("meet(1, 0)", x.meet(1, 0), 0);
        DUE.be("meet(1, 1)", x.meet(1, 1), -10);
        DUE.be("counts as BAD", x.status(0), 5);
    }

    private static void meet() {
        HailCellar x = new HailCellar();
        x.slinger(0, 0);
        x.slinger(0, 1);
        x.cloud(9, 3);
        x.cloud(9, 5);
        // stones of 3 rings: far 3 and 5, a hit each; as many hours as they reach it
        DUE.be("both are turned", x.meet(3, -1), 2);
        DUE.be("the first", x.meet(3, 0), 0);
        DUE.be("the second", x.meet(3, 1), 1);
        x.cloud(30, 40);
        DUE.be("not all", x.meet(3, -1), 2);
        DUE.be("nothing is changed", x.count(10), 0);
        DUE.be("by 9 rings: far 9 and 11, 3 hits each", x.meet(9, -1), 2);
        DUE.be("by 9 rings: first way", x.meet(9, 0), 0);
        DUE.be("by 9 rings: first way", x.meet(9, 1), 1);
        x.wind(3);
        DUE.be("by wind 3: 0 and 2 hits", x.meet(3, -1), 0);
        DUE.be("by wind 3: the first way is all 0", x.meet(3, 1), 0);
        HailCellar y = new HailCellar();
        y.slinger(0, 1);
        y.slinger(0, 0);
        y.cloud(30, 8);
        y.cloud(30, 5);
        y.cloud(30, 3);
        // 5 and 3 hits: together cloud 0, or apart clouds 1 and 2
        DUE.be("apart turns more", y.meet(3, -1), 2);
        DUE.be("apart", y.meet(3, 0), 1);
        DUE.be("apart", y.meet(3, 1), 2);
        HailCellar z = new HailCellar();
        z.slinger(0, 9);
        z.cloud(1, 1);
        z.cloud(2, 1);
        z.hour();
        DUE.be("one here is not hit", z.meet(1, -1), 1);
        DUE.be("one here is not hit", z.meet(1, 0), 1);
        z.cellar(4, 9);
        z.stones(0, 1, 9);
        z.throwing(0, 0, 1, 1);
        DUE.be("turned by now", z.meet(1, -1), 1);
        DUE.be("turned by now: the first way", z.meet(1, 0), 0);
    }

    private static void doors() {
        HailCellar x = new HailCellar();
        DUE.be("no cellar", x.doors(1, 0), -1);
        DUE.be("no cellar", x.doors(1, 1), -1);
        x.cellar(0, 0);
        x.cellar(5, 0);
        x.cellar(1, 0);
        DUE.be("no stones", x.doors(1, 0), -1);
        x.stones(0, 5, 4);
        x.stones(1, 5, 1);
        x.stones(1, 6, 2);
        x.stones(1, 7, 2);
        x.stones(2, 5, 3);
        x.stones(2, 4, 9);
        DUE.be("5 or more: 4, 3, 3", x.doors(5, 0), 1);
        DUE.be("5 or more", x.doors(5, 1), 3);
        DUE.be("4 or more: 0, 1, 9", x.doors(4, 0), 0);
        DUE.be("4 or more", x.doors(4, 1), 0);
        DUE.be("6 or more: only wine has them", x.doors(6, 0), 1);
        DUE.be("6 or more", x.doors(6, 1), 4);
        DUE.be("9", x.doors(9, 0), -1);
        x.cellar(4, 0);
        x.stones(3, 9, 1);
        DUE.be("a well", x.doors(5, 0), 3);
        DUE.be("a well", x.doors(5, 1), 0);
        DUE.be("nothing is changed", x.count(5), 22);
        DUE.be("doors(0, 0)", x.doors(0, 0), -2);
        DUE.be("doors(10, 0)", x.doors(10, 0), -2);
        DUE.be("doors(1, -1)", x.doors(1, -1), -2);
        DUE.be("doors(1, 2)", x.doors(1, 2), -2);
    }

    public static void main(String[] args) {
        throwsOf();
        reach();
        turn();
        turnByManyPeas();
        meetBad();
        meet();
        doors();
        DUE.end("ThrowsTest");
    }
}
