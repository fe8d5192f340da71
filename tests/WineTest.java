/** Promises 30 to 43: rings, cooled, even, note, flew, forget, is, watch, who, ask, parishes, gusts, summers, part. */
public final class WineTest {
    private static final Due DUE = new Due();

    private static void rings() {
        HailCellar x = new HailCellar();
        DUE.be("rings, no cellar", x.rings(0, 0, 1, 0), -2);
        x.cellar(0, 0);
        int[][] wrong = {{-1, 0, 1, 0}, {1, 0, 1, 0}, {0, -1, 1, 0}, {0, 100, 1, 0}, {0, 0, 0, 0}, {0, 0, 10, 0}, {0, 0, 5, -1}, {0, 0, 5, 6}, {0, 0, 9, 10}};
        for (int[] w : wrong) {
            DUE.be("rings " + w[0] + " " + w[1] + " " + w[2] + " " + w[3], x.rings(w[0], w[1], w[2], w[3]), -2);
        }
        DUE.be("rings(0, 99, 9, 9)", x.rings(0, 99, 9, 9), 1);
        DUE.be("rings(0, 0, 1, 0)", x.rings(0, 0, 1, 0), 2);
        DUE.be("rings(0, 0, 1, 1)", x.rings(0, 0, 1, 1), 3);
        DUE.be("rings(0, 0, 1, 1)", x.rings(0, 0, 1, 1), 4);
        DUE.be("a 5th", x.rings(0, 0, 1, 1), -4);
        DUE.be("BAD ahead of FULL", x.rings(0, 0, 1, 2), -2);
        DUE.be("how many", x.count(7), 4);
    }

    private static void cooledAndEven() {
        HailCellar x = new HailCellar();
        DUE.be("even, no cellar", x.even(0), -2);
        x.cellar(0, 0);
        x.cellar(5, 0);
        x.cellar(4, 0);
        DUE.be("cooled, none told", x.cooled(0), -2);
        DUE.be("even, none told", x.even(0), 1023);
        x.rings(0, 2, 7, 3);
        x.rings(0, 3, 3, 0);
        x.rings(1, 2, 9, 3);
        x.rings(2, 1, 4, 3);
        DUE.be("plain: 7 less 1 less 3 doors", x.cooled(0), 8);
        DUE.be("plain: to 0 by 2 doors or more", x.cooled(1), 1020);
        DUE.be("wine: 9 less 2 less 2 doors by 2 each", x.cooled(2), 4);
        DUE.be("well: any doors", x.cooled(3), 1023);
        DUE.be("even(0)", x.even(0), 8);
        DUE.be("even(1)", x.even(1), 4);
        DUE.be("even(2)", x.even(2), 1023);
        x.straw(0, 5);
        DUE.be("straw as it is: 4 doors", x.cooled(0), 16);
        x.straw(1, 5);
        DUE.be("straw as it is: an odd number is none's", x.cooled(2), 0);
        x.straw(2, 8);
        DUE.be("a well by 8 does not melt", x.cooled(3), 0);
        DUE.be("cooled(4)", x.cooled(4), -2);
        DUE.be("cooled(-1)", x.cooled(-1), -2);
        DUE.be("even(3)", x.even(3), -2);
        DUE.be("even(-1)", x.even(-1), -2);
        HailCellar y = new HailCellar();
        y.cellar(3, 0);
        y.rings(0, 0, 9, 0);
        DUE.be("9 doors at most", y.cooled(0), 512);
    }

    private static void notes() {
        HailCellar x = new HailCellar();
        DUE.be("note, no cellar", x.note(0, 0, 0, 0, 0), -2);
        x.cellar(2, 5);
        x.cellar(0, 0);
        int[][] wrong = {{-1, 0, 0, 0, 0}, {2, 0, 0, 0, 0}, {0, -1, 0, 0, 0}, {0, 10, 0, 0, 0}, {0, 0, -1, 0, 0}, {0, 0, 100, 0, 0},
            {0, 0, 0, -1, 0}, {0, 0, 0, 5, 0}, {0, 0, 0, 0, -1}, {0, 0, 0, 0, 5}};
        for (int[] w : wrong) {
            DUE.be("note " + java.util.Arrays.toString(w), x.note(w[0], w[1], w[2], w[3], w[4]), -2);
        }
        DUE.be("is, none told", x.is(0), 63);
        DUE.be("note", x.note(0, 9, 99, 1, 1), 1);
        // week 99 leaves 0 by 3: DEEP and WELL do not melt, nor the CHURCH; SOUTH and WINE by 2
        DUE.be("is plain", x.is(0), 1);
        DUE.be("of another cellar", x.is(1), 63);
        x.note(1, 0, 8, 1, 1);
        DUE.be("is plain or deep", x.is(1), 3);
        x.note(1, 0, 3, 0, 1);
        DUE.be("is deep", x.is(1), 2);
        x.note(1, 0, 3, 1, 1);
        DUE.be("is none", x.is(1), 0);
        x.note(1, 0, 3, 4, 4);
        DUE.be("a 6th", x.note(0, 9, 99, 4, 4), 6);
        DUE.be("a 7th", x.note(0, 0, 0, 0, 0), -4);
        DUE.be("BAD ahead of FULL", x.note(0, 0, 0, 0, 5), -2);
        DUE.be("is none", x.is(0), 0);
        DUE.be("is(2)", x.is(2), -2);
        DUE.be("is(-1)", x.is(-1), -2);
        int[][] meltCostKinds = {{1, 1, 1}, {0, 1, 10}, {2, 1, 4}, {0, 0, 16}, {2, 2, 32}, {1, 2, 0}, {3, 1, 0}};
        for (int[] m : meltCostKinds) {
            HailCellar y = new HailCellar();
            y.cellar(0, 0);
            y.note(0, 4, 0, m[0], m[1]);
            DUE.be("week 0, straw 4, melted by " + m[0] + ", a door " + m[1], y.is(0), m[2]);
        }
    }

    private static void watch() {
        HailCellar x = new HailCellar();
        DUE.be("watch, no cellar", x.watch(0), -2);
        x.cellar(0, 0);
        // all kinds, straw 0: in week 0 plain | deep church | south | well | wine; in week 1 plain deep | south | church | ..
        DUE.be("two are alike at least", x.watch(0), 0);
        x.straw(0, 5);
        // week 0: plain deep church are alike; week 1: plain deep
        DUE.be("with straw", x.watch(0), 1);
        x.note(0, 0, 1, 1, 1);
        // plain or deep; they differ in weeks that leave 0 by 3 and are odd
        DUE.be("plain or deep", x.watch(0), 3);
        x.straw(0, 4);
        DUE.be("plain or deep, little straw", x.watch(0), 0);
        x.note(0, 0, 3, 0, 1);
        DUE.be("deep alone: the first", x.watch(0), 0);
        x.note(0, 0, 0, 4, 4);
        DUE.be("no kind", x.watch(0), -1);
        DUE.be("watch(1)", x.watch(1), -2);
        DUE.be("watch(-1)", x.watch(-1), -2);
    }

    private static void flew() {
        HailCellar x = new HailCellar();
        DUE.be("flew, no slinger", x.flew(0, 1, 0, 0, 0), -2);
        x.slinger(0, 3);
        x.slinger(0, 0);
        int[][] wrong = {{-1, 1, 0, 0, 0}, {2, 1, 0, 0, 0}, {0, 0, 0, 0, 0}, {0, 10, 0, 0, 0}, {0, 1, -1, 0, 0}, {0, 1, 10, 0, 0},
            {0, 1, 0, -1, 0}, {0, 1, 0, 61, 0}, {0, 1, 0, 0, -1}, {0, 1, 0, 0, 13}};
        for (int[] w : wrong) {
            DUE.be("flew " + java.util.Arrays.toString(w), x.flew(w[0], w[1], w[2], w[3], w[4]), -2);
        }
        DUE.be("who, none told", x.who(0), 63);
        DUE.be("flew", x.flew(0, 1, 2, 5, 1), 1);
        DUE.be("6 + 1 - 2: plain", x.who(0), 1);
        DUE.be("of another slinger", x.who(1), 63);
        x.flew(1, 9, 0, 9, 4);
        DUE.be("hill", x.who(1), 8);
        x.flew(1, 9, 1, 7, 4);
        DUE.be("hill still", x.who(1), 8);
        x.flew(1, 9, 2, 6, 4);
        DUE.be("none", x.who(1), 0);
        x.flew(0, 9, 9, 60, 12);
        DUE.be("a 6th", x.flew(0, 1, 0, 0, 0), 6);
        DUE.be("a 7th", x.flew(0, 1, 0, 0, 0), -4);
        DUE.be("BAD ahead of FULL", x.flew(0, 0, 0, 0, 0), -2);
        DUE.be("who(2)", x.who(2), -2);
        DUE.be("who(-1)", x.who(-1), -2);
        int[] far = {3, 3, 7, 0, 11, 3};
        int[] hits = {1, 3, 1, 1, 1, 6};
        for (int kind = 0; kind < 6; kind++) {
            HailCellar y = new HailCellar();
            y.slinger(0, 3);
            y.flew(0, 1, 4, far[kind], hits[kind]);
            DUE.be("kind " + kind + " by 1 ring, wind 4", y.who(0), 1 << kind);
            y.forget(2);
            y.flew(0, 3, 4, kind == 3 ? 1 : far[kind] + 2, hits[kind]);
            DUE.be("kind " + kind + " by 3 rings, wind 4", y.who(0), 1 << kind);
        }
    }

    private static void ask() {
        HailCellar x = new HailCellar();
        DUE.be("ask, no slinger", x.ask(0), -2);
        x.slinger(0, 9);
        // by 1 ring, wind 0 plain and hill are alike, and strong and master; by wind 1 none are
        DUE.be("all kinds", x.ask(0), 11);
        x.flew(0, 1, 0, 19, 1);
        DUE.be("plain or hill", x.ask(0), 11);
        x.flew(0, 1, 1, 18, 1);
        DUE.be("plain alone: the least", x.ask(0), 10);
        x.flew(0, 1, 1, 18, 2);
        DUE.be("no kind", x.ask(0), -1);
        x.slinger(0, 0);
        x.flew(1, 1, 1, 0, 1);
        // plain and hill of arm 0: alike by 1 ring by any wind; by 2 rings, wind 1: 1 and 0
        DUE.be("plain or hill, arm 0", x.who(1), 9);
        DUE.be("plain or hill, arm 0", x.ask(1), 21);
        DUE.be("ask(2)", x.ask(2), -2);
        DUE.be("ask(-1)", x.ask(-1), -2);
    }

    private static void forget() {
        HailCellar x = new HailCellar();
        x.cellar(0, 0);
        x.slinger(0, 0);
        x.rings(0, 0, 1, 1);
        x.note(0, 0, 0, 0, 0);
        x.note(0, 0, 0, 0, 0);
        x.flew(0, 1, 0, 0, 0);
        x.flew(0, 1, 0, 0, 0);
        x.flew(0, 1, 0, 0, 0);
        DUE.be("forget(3)", x.forget(3), -2);
        DUE.be("forget(-1)", x.forget(-1), -2);
        DUE.be("forget(0)", x.forget(0), 1);
        DUE.be("the others stay", 10 * x.count(8) + x.count(9), 23);
        DUE.be("forget(0) again", x.forget(0), 0);
        DUE.be("forget(1)", x.forget(1), 2);
        DUE.be("forget(2)", x.forget(2), 3);
        DUE.be("none is left", x.count(7) + x.count(8) + x.count(9), 0);
        DUE.be("they come anew", x.rings(0, 1, 2, 1), 1);
        DUE.be("the new one", x.cooled(0), 1);
    }

    private static void parishes() {
        HailCellar x = new HailCellar();
        x.slinger(0, 9);
        x.slinger(0, 9);
        x.slinger(0, 0);
        x.cloud(9, 4);
        // 1 hit for 2: neither throws; 2 hits for 2: all alike; 3 hits: the first throws for 3, the second for 1
        DUE.be("peas", x.parishes(0, 1, 0, 3), 1);
        DUE.be("walnuts", x.parishes(0, 1, 0, 6), 15);
        DUE.be("eggs", x.parishes(0, 1, 0, 7), 6);
        DUE.be("b does not reach it", x.parishes(0, 2, 0, 7), 2);
        DUE.be("a does not reach it", x.parishes(2, 0, 0, 7), 4);
        x.cloud(9, 40);
        DUE.be("eggs, far from turned", x.parishes(0, 1, 1, 7), 8);
        x.cloud(1, 40);
        x.hour();
        DUE.be("here", x.parishes(0, 1, 2, 7), 1);
        DUE.be("nothing is changed", x.sky(0, 2), 0);
        DUE.be("alike", x.parishes(0, 0, 0, 1), -2);
        int[][] wrong = {{-1, 1, 0, 1}, {3, 1, 0, 1}, {0, -1, 0, 1}, {0, 3, 0, 1}, {0, 1, -1, 1}, {0, 1, 3, 1}, {0, 1, 0, 0}, {0, 1, 0, 10}};
        for (int[] w : wrong) {
            DUE.be("parishes " + java.util.Arrays.toString(w), x.parishes(w[0], w[1], w[2], w[3]), -2);
        }
    }

    private static void gustsAre(HailCellar x, int s, int k, int r, int n, int c, long above, long below) {
        String call = "gusts(" + s + ", " + k + ", " + r + ", " + n + ", " + c + ")";
        DUE.be(call, x.gusts(s, k, r, n, c), 1);
        DUE.be(call + " above", x.part(0), above);
        DUE.be(call + " below", x.part(1), below);
    }

    private static void gusts() {
        HailCellar x = new HailCellar();
        x.store(2);
        x.slinger(0, 5);
        x.slinger(5, 9);
        x.cloud(10, 1);
        // 10 + 3 - 2 reaches 10, not by 4 more
        gustsAre(x, 0, 0, 3, 7, 3, 49, 10);
        gustsAre(x, 0, 0, 3, 5, 4, 3, 1);
        gustsAre(x, 0, 0, 3, 9, 10, 0, 1);
        gustsAre(x, 0, 0, 3, 0, 0, 0, 1);
        gustsAre(x, 0, 0, 9, 9, 10, 27, 1);
        gustsAre(x, 1, 0, 3, 9, 5, 54, 1);
        gustsAre(x, 0, 0, 1, 9, 0, 0, 1);
        // 10 + 6 - 6 reaches 10 just so
        gustsAre(x, 0, 0, 6, 1, 10, 2, 1);
        x.wind(6);
        x.cloud(4, 1);
        // 9 at most: 10 + 3 - 9 reaches 4
        gustsAre(x, 0, 1, 3, 1, 10, 1, 1);
        gustsAre(x, 0, 0, 9, 1, 3, 3, 1);
        gustsAre(x, 0, 0, 8, 1, 3, 21, 10);
        int[][] wrong = {{-1, 0, 1, 0, 0}, {2, 0, 1, 0, 0}, {0, -1, 1, 0, 0}, {0, 2, 1, 0, 0}, {0, 0, 0, 0, 0}, {0, 0, 10, 0, 0},
            {0, 0, 1, -1, 0}, {0, 0, 1, 10, 0}, {0, 0, 1, 0, -1}, {0, 0, 1, 0, 11}};
        for (int[] w : wrong) {
            DUE.be("gusts " + java.util.Arrays.toString(w), x.gusts(w[0], w[1], w[2], w[3], w[4]), -2);
        }
        DUE.be("the fraction stays", x.part(0), 21);
        DUE.be("part(2)", x.part(2), -2);
        DUE.be("part(-1)", x.part(-1), -2);
        DUE.be("status", x.status(0), wrong.length + 2);
        for (int i = 0; i < 4; i++) {
            x.hour();
        }
        gustsAre(x, 0, 1, 9, 9, 0, 0, 1);
    }

    private static void summers() {
        HailCellar x = new HailCellar();
        DUE.be("summers(-1, 0)", x.summers(-1, 0), -2);
        DUE.be("summers(1000000, 0)", x.summers(1000000, 0), -2);
        DUE.be("summers(0, -1)", x.summers(0, -1), -2);
        DUE.be("summers(0, 61)", x.summers(0, 61), -2);
        for (int c = 0; c < 4; c++) {
            x.cellar(3, 0);
            x.stones(c, 1 + c, 10);
        }
        DUE.be("no weeks", x.summers(999999, 0), 40);
        // by seed 0: X is 12345, 1406932606, 654583775, 1449466924, 229283573, ..: cellars 0, 3, 3, 2, 3
        DUE.be("by seed 0, 1 week", x.summers(0, 1), 30);
        DUE.be("by seed 0, 2 weeks", x.summers(0, 2), 30);
        x.stones(3, 1, 1);
        x.stones(3, 2, 2);
        x.stones(3, 3, 3);
        x.stones(2, 1, 7);
        DUE.be("by seed 0, 1 week", x.summers(0, 1), 43);
        DUE.be("by seed 0, 2 weeks", x.summers(0, 2), 42);
        DUE.be("by seed 0, 3 weeks", x.summers(0, 3), 40);
        DUE.be("by seed 0, 4 weeks", x.summers(0, 4), 33);
        DUE.be("by seed 0, 5 weeks", x.summers(0, 5), 30);
        DUE.be("nothing is changed", x.count(5), 53);
        HailCellar y = new HailCellar();
        y.cellar(0, 0);
        y.stones(0, 3, 1);
        DUE.be("it melts too: a door, 2 weeks", y.summers(0, 1), 1);
        DUE.be("it melts too: a door, 2 weeks", y.summers(0, 2), 0);
        HailCellar z = new HailCellar();
        z.cellar(1, 0);
        z.week(1);
        z.stones(0, 4, 1);
        z.stones(0, 3, 1);
        DUE.be("from week 1 on: a door, weeks 1 and 2", z.summers(0, 2), 1);
        DUE.be("from week 1 on: week 3 does not melt", z.summers(0, 3), 1);
        DUE.be("from week 1 on: week 4 does", z.summers(0, 4), 0);
    }

    public static void main(String[] args) {
        rings();
        cooledAndEven();
        notes();
        watch();
        flew();
        ask();
        forget();
        parishes();
        gusts();
        summers();
        DUE.end("WineTest");
    }
}
