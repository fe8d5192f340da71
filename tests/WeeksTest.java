/** Promises 11 to 20: weeks, doors, throws, hours, the wind, undo, and what is looked at. */
public final class WeeksTest {
    private static final Due DUE = new Due();

    /** One stone of each size in a cellar of each of the first five kinds. */
    private static HailCellar withCellars(int straw) {
        HailCellar x = new HailCellar();
        for (int kind = 0; kind < 5; kind++) {
            x.cellar(kind, straw);
            for (int r = 1; r <= 9; r++) {
                x.stones(kind, r, r);
            }
        }
        return x;
    }

    private static void week() {
        HailCellar x = withCellars(0);
        DUE.be("week(0)", x.week(0), -2);
        DUE.be("week(61)", x.week(61), -2);
        DUE.be("week(-1)", x.week(-1), -2);
        // week 0: PLAIN 1, DEEP 0, SOUTH 2, CHURCH 0, WELL 0
        DUE.be("week(1)", x.week(1), 44 + 45 + 42 + 45 + 45);
        DUE.be("plain", x.has(0, 8), 9);
        DUE.be("deep", x.has(1, 9), 9);
        DUE.be("south", x.has(2, 7), 9);
        DUE.be("number", x.count(3), 1);
        // week 1: 1, 1, 2, 0, 1; week 2: 1, 1, 2, 0, 1; week 3: 1, 0, 2, 0, 0
        DUE.be("week(3)", x.week(3), (45 - 10) + (45 - 3) + 9 + 45 + (45 - 3));
        DUE.be("number", x.count(3), 4);
        DUE.be("gone", x.week(60), 45);
        DUE.be("number", x.count(3), 64);
        HailCellar y = withCellars(8);
        // straw 8: PLAIN 0 in even weeks, DEEP too, SOUTH 1, WELL never
        y.week(1);
        DUE.be("plain, even week", y.has(0, 9), 9);
        DUE.be("south, even week", y.has(2, 8), 9);
        y.week(1);
        DUE.be("plain, odd week", y.has(0, 8), 9);
        DUE.be("deep, week 1", y.has(1, 8), 9);
        DUE.be("south, odd week", y.has(2, 6), 9);
        y.week(60);
        DUE.be("well", y.of(4, 3), 45);
    }

    private static void weekAt999() {
        HailCellar x = new HailCellar();
        for (int i = 0; i < 16; i++) {
            x.week(60);
        }
        x.cellar(0, 0);
        x.stones(0, 9, 1);
        DUE.be("to 996", x.week(36), 0);
        x.stones(0, 9, 1);
        DUE.be("996 to 999", x.week(60), 1);
        DUE.be("999", x.count(3), 999);
        DUE.be("its rings", x.has(0, 6), 1);
        DUE.be("none goes by", x.week(5), 1);
        DUE.be("its rings", x.has(0, 6), 1);
        DUE.be("it may be undone all the same", x.count(10), 2);
        DUE.be("undo", x.undo(), 999);
        DUE.be("undo", x.undo(), 996);
        DUE.be("its rings", x.has(0, 9), 1);
    }

    private static void door() {
        HailCellar x = withCellars(0);
        DUE.be("door plain", x.door(0), 44);
        DUE.be("door deep", x.door(1), 44);
        DUE.be("door south", x.door(2), 44);
        DUE.be("door church", x.door(3), 44);
        DUE.be("door well", x.door(4), 45);
        DUE.be("door, none such", x.door(5), -2);
        DUE.be("door(-1)", x.door(-1), -2);
        DUE.be("no week goes by", x.count(3), 0);
        HailCellar y = new HailCellar();
        y.cellar(5, 9);
        y.stones(0, 3, 4);
        y.stones(0, 2, 5);
        DUE.be("door wine", y.door(0), 4);
        DUE.be("its rings", y.has(0, 1), 4);
        DUE.be("door wine", y.door(0), 0);
    }

    private static void throwing() {
        HailCellar x = new HailCellar();
        x.store(2);
        x.cellar(0, 0);
        x.cellar(5, 0);
        x.cellar(4, 0);
        x.stones(0, 3, 2);
        x.stones(0, 1, 1);
        x.stones(1, 5, 1);
        x.stones(2, 9, 60);
        x.slinger(0, 5);
        x.slinger(5, 9);
        x.slinger(3, 9);
        x.cloud(11, 3);
        x.cloud(12, 40);
        x.cloud(1, 1);
        DUE.be("a hit: 10 + 3 - 2 reaches 11", x.throwing(0, 0, 3, 0), 1);
        DUE.be("hits", x.sky(0, 2), 1);
        DUE.be("the stone is taken, the door costs a ring of the others", x.has(0, 2), 1);
        DUE.be("the pea is gone", x.of(0, 3), 1);
        DUE.be("too far: 10 + 2 - 2 does not reach 11", x.throwing(0, 0, 2, 0), 0);
        DUE.be("no stone any more", x.throwing(0, 0, 2, 0), -3);
        DUE.be("hits stay", x.sky(0, 2), 1);
        DUE.be("a child throws no walnut", x.throwing(1, 1, 5, 1), 0);
        DUE.be("wine: none left", x.of(1, 3), 0);
        DUE.be("hill: 18 + 9 - 2 - 2 reaches 12, 4 hits", x.throwing(2, 2, 9, 1), 4);
        for (int i = 0; i < 9; i++) {
            x.throwing(2, 2, 9, 1);
        }
        DUE.be("40 hits", x.sky(1, 2), 40);
        DUE.be("one more makes its hits", x.throwing(2, 2, 9, 1), 4);
        DUE.be("40 at most", x.sky(1, 2), 40);
        x.hour();
        DUE.be("cloud 2 is here", x.throwing(2, 2, 9, 2), -3);
        DUE.be("its stones stay", x.has(2, 9), 49);
        int[][] wrong = {{-1, 2, 9, 1}, {3, 2, 9, 1}, {2, -1, 9, 1}, {2, 3, 9, 1}, {2, 2, 0, 1}, {2, 2, 10, 1}, {2, 2, 9, -1}, {2, 2, 9, 3}};
        for (int[] w : wrong) {
            DUE.be("throwing " + w[0] + " " + w[1] + " " + w[2] + " " + w[3], x.throwing(w[0], w[1], w[2], w[3]), -2);
        }
        DUE.be("status BAD", x.status(0), 8);
        DUE.be("status NO", x.status(1), 2);
        DUE.be("refused ones are not to be undone", x.count(10), 8);
    }

    private static void hour() {
        HailCellar x = new HailCellar();
        DUE.be("hour, no clouds", x.hour(), 0);
        x.cellar(4, 9);
        x.stones(0, 9, 9);
        x.slinger(0, 0);
        x.cloud(1, 1);
        x.cloud(2, 4);
        x.cloud(9, 3);
        DUE.be("turns cloud 2", x.throwing(0, 0, 9, 2), 3);
        DUE.be("hour", x.hour(), 1);
        DUE.be("hour", x.hour(), 2);
        DUE.be("hour: those here stay so", x.hour(), 2);
        DUE.be("far of one here", x.sky(0, 0), 0);
        DUE.be("a turned one stays where it is", x.sky(2, 0), 9);
    }

    private static void wind() {
        HailCellar x = new HailCellar();
        x.store(4);
        DUE.be("wind(9)", x.wind(9), 4);
        DUE.be("wind(0)", x.wind(0), 9);
        DUE.be("wind(10)", x.wind(10), -2);
        DUE.be("wind(-1)", x.wind(-1), -2);
        DUE.be("it is", x.count(4), 0);
        DUE.be("may be undone", x.count(10), 2);
    }

    private static void undo() {
        HailCellar x = new HailCellar();
        x.store(3);
        x.cellar(0, 0);
        x.stones(0, 9, 2);
        x.slinger(0, 9);
        x.cloud(20, 2);
        long[] digests = new long[6];
        digests[0] = x.digest();
        x.week(2);
        digests[1] = x.digest();
        x.door(0);
        digests[2] = x.digest();
        x.throwing(0, 0, 6, 0);
        digests[3] = x.digest();
        x.hour();
        digests[4] = x.digest();
        x.wind(5);
        for (int i = 4; i >= 0; i--) {
            DUE.be("undo " + i, x.undo(), i == 0 ? 0 : 2);
            DUE.be("all as ahead of it " + i, x.digest(), digests[i]);
        }
        DUE.be("none may be", x.undo(), -3);
        DUE.be("status(1)", x.status(1), 1);
        for (int i = 1; i <= 9; i++) {
            x.wind(i % 10);
            DUE.be("8 at most", x.count(10), Math.min(8, i));
        }
        for (int i = 8; i >= 1; i--) {
            DUE.be("undo", x.undo(), 0);
            DUE.be("the wind", x.count(4), i);
        }
        DUE.be("the 9th is gone", x.undo(), -3);
    }

    private static void undoLeavesTheRest() {
        HailCellar x = new HailCellar();
        x.cellar(0, 0);
        x.slinger(0, 0);
        x.cloud(1, 1);
        x.hour();
        x.rings(0, 0, 1, 1);
        x.note(0, 0, 0, 0, 0);
        x.flew(0, 1, 0, 0, 0);
        x.gusts(0, 0, 1, 1, 1);
        x.forget(1);
        DUE.be("one may be undone", x.count(10), 1);
        x.undo();
        DUE.be("rings stay", x.count(7), 1);
        DUE.be("notes stay forgotten", x.count(8), 0);
        DUE.be("thrown stay", x.count(9), 1);
    }

    private static void looks() {
        HailCellar x = new HailCellar();
        int[] cost = {1, 1, 1, 1, 0};
        for (int kind = 0; kind < 5; kind++) {
            x.cellar(kind, 9 - kind);
            DUE.be("kind", x.of(kind, 0), kind);
            DUE.be("straw", x.of(kind, 1), 9 - kind);
            DUE.be("a door", x.of(kind, 2), cost[kind]);
        }
        x.stones(4, 2, 3);
        x.stones(4, 9, 4);
        DUE.be("stones", x.of(4, 3), 7);
        DUE.be("has(4, 2)", x.has(4, 2), 3);
        DUE.be("has(4, 9)", x.has(4, 9), 4);
        DUE.be("has(4, 1)", x.has(4, 1), 0);
        int[][] wrong = {{-1, 0}, {5, 0}, {0, -1}, {0, 4}};
        for (int[] w : wrong) {
            DUE.be("of " + w[0] + " " + w[1], x.of(w[0], w[1]), -2);
        }
        DUE.be("has(5, 1)", x.has(5, 1), -2);
        DUE.be("has(-1, 1)", x.has(-1, 1), -2);
        DUE.be("has(0, 0)", x.has(0, 0), -2);
        DUE.be("has(0, 10)", x.has(0, 10), -2);
        x.slinger(5, 8);
        DUE.be("about(0, 0)", x.about(0, 0), 5);
        DUE.be("about(0, 1)", x.about(0, 1), 8);
        DUE.be("about(0, 2)", x.about(0, 2), -2);
        DUE.be("about(0, -1)", x.about(0, -1), -2);
        DUE.be("about(1, 0)", x.about(1, 0), -2);
        x.cloud(7, 3);
        x.throwing(0, 4, 2, 0);
        DUE.be("sky far", x.sky(0, 0), 7);
        DUE.be("sky need", x.sky(0, 1), 3);
        DUE.be("sky hits", x.sky(0, 2), 6);
        DUE.be("sky turned", x.sky(0, 3), 1);
        x.cloud(7, 30);
        DUE.be("sky not turned", x.sky(1, 3), 0);
        DUE.be("sky(0, 4)", x.sky(0, 4), -2);
        DUE.be("sky(0, -1)", x.sky(0, -1), -2);
        DUE.be("sky(2, 0)", x.sky(2, 0), -2);
        DUE.be("sky(-1, 0)", x.sky(-1, 0), -2);
        HailCellar wine = new HailCellar();
        wine.cellar(5, 0);
        DUE.be("a door of wine", wine.of(0, 2), 2);
    }

    public static void main(String[] args) {
        week();
        weekAt999();
        door();
        throwing();
        hour();
        wind();
        undo();
        undoLeavesTheRest();
        looks();
        DUE.end("WeeksTest");
    }
}
