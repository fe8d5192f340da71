/** Promises 1 to 9: a new object, what a store is made of, and the text's bytes. */
public final class StoreTest {
    private static final Due DUE = new Due();

    private static void newObject() {
        HailCellar x = new HailCellar();
        for (int what = 0; what <= 11; what++) {
            DUE.be("new: count(" + what + ")", x.count(what), 0);
        }
        DUE.be("new: part(0)", x.part(0), 0);
        DUE.be("new: part(1)", x.part(1), 1);
        DUE.be("new: undo()", x.undo(), HailCellar.NO);
        DUE.be("new: from(0)", x.from(0), HailCellar.NO);
        DUE.be("new: from(1)", x.from(1), HailCellar.NO);
        DUE.be("new: status(0)", x.status(0), 0);
        DUE.be("new: status(1)", x.status(1), 3);
        DUE.be("new: status(2)", x.status(2), 0);
        HailCellar y = new HailCellar();
        x.cellar(0, 0);
        DUE.be("an object of its own", y.count(0), 0);
    }

    private static HailCellar filled() {
        HailCellar x = new HailCellar();
        x.cellar(1, 2);
        x.cellar(3, 4);
        x.stones(1, 9, 5);
        x.slinger(0, 9);
        x.cloud(3, 4);
        x.rings(0, 1, 5, 4);
        x.note(0, 1, 1, 1, 1);
        x.flew(0, 1, 1, 1, 1);
        x.gusts(0, 0, 1, 1, 5);
        x.type('a');
        x.image(1);
        x.week(3);
        return x;
    }

    private static void store() {
        HailCellar x = filled();
        long above = x.part(0);
        DUE.be("store(10)", x.store(10), -2);
        DUE.be("store(-1)", x.store(-1), -2);
        DUE.be("a refused store changes nothing", x.count(0), 2);
        DUE.be("store(9)", x.store(9), 2);
        int[] due = {0, 0, 0, 0, 9, 0, 0, 0, 0, 0, 0, 1};
        for (int what = 0; what <= 11; what++) {
            DUE.be("behind store: count(" + what + ")", x.count(what), due[what]);
        }
        DUE.be("the fraction stays", x.part(0), above);
        DUE.be("status stays", x.status(0), 2);
        DUE.be("images stay", x.from(1), 1);
        DUE.be("as kept", x.count(5), 5);
        DUE.be("store(0)", x.store(0), 2);
        DUE.be("store(0) again", x.store(0), 0);
        DUE.be("nothing to undo", x.undo(), -3);
    }

    private static void cellar() {
        HailCellar x = new HailCellar();
        DUE.be("cellar(-1, 0)", x.cellar(-1, 0), -2);
        DUE.be("cellar(6, 0)", x.cellar(6, 0), -2);
        DUE.be("cellar(0, -1)", x.cellar(0, -1), -2);
        DUE.be("cellar(0, 10)", x.cellar(0, 10), -2);
        for (int i = 0; i < 5; i++) {
            DUE.be("cellar " + i, x.cellar(5 - i, 9 - i), i);
        }
        DUE.be("a 6th cellar", x.cellar(0, 0), -4);
        DUE.be("BAD ahead of FULL", x.cellar(6, 0), -2);
        DUE.be("its kind", x.of(4, 0), 1);
        DUE.be("its straw", x.of(4, 1), 5);
        DUE.be("no stones", x.of(4, 3), 0);
        x.stones(0, 9, 9);
        x.store(0);
        x.cellar(0, 0);
        DUE.be("a new cellar has no stones of one before", x.has(0, 9), 0);
    }

    private static void stones() {
        HailCellar x = new HailCellar();
        DUE.be("stones, no cellar", x.stones(0, 1, 1), -2);
        x.cellar(0, 0);
        x.cellar(0, 0);
        DUE.be("stones(1, 9, 1)", x.stones(1, 9, 1), 1);
        DUE.be("more of them", x.stones(1, 9, 97), 98);
        DUE.be("99 at most", x.stones(1, 9, 99), 99);
        DUE.be("99 at once", x.stones(0, 1, 99), 99);
        DUE.be("of another size", x.stones(1, 8, 2), 2);
        int[][] wrong = {{-1, 1, 1}, {2, 1, 1}, {0, 0, 1}, {0, 10, 1}, {0, 1, 0}, {0, 1, 100}, {0, 1, -1}};
        for (int[] w : wrong) {
            DUE.be("stones " + w[0] + " " + w[1] + " " + w[2], x.stones(w[0], w[1], w[2]), -2);
        }
        DUE.be("in all", x.count(5), 200);
    }

    private static void straw() {
        HailCellar x = new HailCellar();
        DUE.be("straw, no cellar", x.straw(0, 0), -2);
        x.cellar(0, 3);
        DUE.be("straw(0, 9)", x.straw(0, 9), 3);
        DUE.be("straw(0, 0)", x.straw(0, 0), 9);
        DUE.be("straw(0, 10)", x.straw(0, 10), -2);
        DUE.be("straw(0, -1)", x.straw(0, -1), -2);
        DUE.be("straw(1, 0)", x.straw(1, 0), -2);
        DUE.be("straw(-1, 0)", x.straw(-1, 0), -2);
        DUE.be("it is", x.of(0, 1), 0);
    }

    private static void slinger() {
        HailCellar x = new HailCellar();
        DUE.be("slinger(-1, 0)", x.slinger(-1, 0), -2);
        DUE.be("slinger(6, 0)", x.slinger(6, 0), -2);
        DUE.be("slinger(0, -1)", x.slinger(0, -1), -2);
        DUE.be("slinger(0, 10)", x.slinger(0, 10), -2);
        for (int i = 0; i < 6; i++) {
            DUE.be("slinger " + i, x.slinger(i, 9 - i), i);
        }
        DUE.be("a 7th slinger", x.slinger(0, 0), -4);
        DUE.be("BAD ahead of FULL", x.slinger(0, 10), -2);
        DUE.be("how many", x.count(1), 6);
    }

    private static void cloud() {
        HailCellar x = new HailCellar();
        DUE.be("cloud(0, 1)", x.cloud(0, 1), -2);
        DUE.be("cloud(31, 1)", x.cloud(31, 1), -2);
        DUE.be("cloud(1, 0)", x.cloud(1, 0), -2);
        DUE.be("cloud(1, 41)", x.cloud(1, 41), -2);
        DUE.be("cloud(30, 40)", x.cloud(30, 40), 0);
        DUE.be("cloud(1, 1)", x.cloud(1, 1), 1);
        DUE.be("cloud(2, 2)", x.cloud(2, 2), 2);
        DUE.be("cloud(3, 3)", x.cloud(3, 3), 3);
        DUE.be("a 5th cloud", x.cloud(1, 1), -4);
        DUE.be("BAD ahead of FULL", x.cloud(31, 1), -2);
        DUE.be("no hits at first", x.sky(0, 2), 0);
        DUE.be("how many", x.count(2), 4);
    }

    /** CELLAR, STONES, STRAW, SLINGER, CLOUD that come: nothing may be undone behind them; refused ones let it be. */
    private static void nothingToUndoBehind() {
        HailCellar x = new HailCellar();
        for (int call = 0; call < 5; call++) {
            x.store(0);
            x.cellar(0, 0);
            x.hour();
            DUE.be("ahead of call " + call, x.count(10), 1);
            int refused = call == 0 ? x.cellar(9, 0) : call == 1 ? x.stones(0, 0, 0) : call == 2 ? x.straw(0, 10)
                    : call == 3 ? x.slinger(0, 10) : x.cloud(0, 0);
            DUE.be("refused call " + call, refused, -2);
            DUE.be("behind refused call " + call, x.count(10), 1);
            int came = call == 0 ? x.cellar(0, 0) : call == 1 ? x.stones(0, 1, 1) : call == 2 ? x.straw(0, 0)
                    : call == 3 ? x.slinger(0, 0) : x.cloud(1, 1);
            DUE.hold("call " + call + " came", came >= 0);
            DUE.be("behind call " + call, x.count(10), 0);
        }
    }

    private static void text() {
        HailCellar x = new HailCellar();
        DUE.be("clear() of none", x.clear(), 0);
        DUE.be("type(-1)", x.type(-1), -2);
        DUE.be("type(128)", x.type(128), -2);
        DUE.be("type(0)", x.type(0), 1);
        DUE.be("type(127)", x.type(127), 2);
        for (int n = 3; n <= 150; n++) {
            DUE.be("byte " + n, x.type(32), n);
        }
        DUE.be("byte 151", x.type(32), -4);
        DUE.be("BAD ahead of FULL", x.type(128), -2);
        DUE.be("status(2)", x.status(2), 1);
        DUE.be("bytes", x.count(11), 150);
        DUE.be("clear()", x.clear(), 150);
        DUE.be("bytes behind clear()", x.count(11), 0);
        DUE.be("type again", x.type('s'), 1);
    }

    public static void main(String[] args) {
        newObject();
        store();
        cellar();
        stones();
        straw();
        slinger();
        cloud();
        nothingToUndoBehind();
        text();
        DUE.end("StoreTest");
    }
}
