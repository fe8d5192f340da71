/** Promises 1 to 9: each sentence that names a bound, with calls at it and on both sides of it. */
public final class StoreEdgeTest {
    /** A call of each method of the face, as the last one. */
    private static final String[] LAST_CALLS = {"store 3", "cellar 1 2", "stones 0 9 1", "straw 0 5", "slinger 2 2", "cloud 9 9",
        "type 59", "clear", "read", "week 2", "door 0", "throwing 0 0 9 0", "hour", "wind 4", "undo", "of 0 2", "has 0 9", "about 0 1",
        "sky 0 0", "melts 0 3", "then 0 3 1 0", "lasts 0 5", "least 0 3 4", "throwsOf 0 9 0", "reach 0 0", "turn 0 0 0 0", "meet 9 -1",
        "doors 9 0", "rings 0 1 9 7", "cooled 0", "even 0", "note 0 1 1 1 1", "flew 0 1 1 1 1", "forget 1", "is 0", "watch 0", "who 0",
        "ask 0", "parishes 0 1 0 9", "gusts 0 0 9 9 5", "summers 77 60", "part 0", "image 0", "from 0", "status 0", "count 5", "digest"};
    private static final String[] SOME_STORE = {"store 1", "cellar 0 0", "stones 0 9 20", "cellar 5 9", "stones 1 8 7", "slinger 0 5",
        "slinger 5 9", "cloud 12 9", "rings 0 1 9 5", "note 0 1 1 1 1", "flew 0 9 1 18 3", "type 97", "hour", "image 0", "week 1"};

    static void newObject() {
        Edge e = new Edge(1, "As told; nothing is there.");
        for (int what = 0; what <= 11; what++) {
            e.due(0, "count " + what);
        }
        e.due(Due.mix(0, 0, 0, 0, 0, 0, 0, 0, 0, 0, 0, 0, 0, 1), "digest");
        for (String none : new String[] {"of 0 0", "has 0 1", "about 0 0", "sky 0 0", "melts 0 0", "then 0 0 0 0", "lasts 0 1",
            "least 0 1 0", "throwsOf 0 1 0", "reach 0 0", "turn 0 0 0 0", "cooled 0", "even 0", "is 0", "watch 0", "who 0", "ask 0",
            "parishes 0 1 0 1", "gusts 0 0 1 0 0", "stones 0 1 1", "straw 0 0", "door 0", "throwing 0 0 1 0", "rings 0 0 1 0",
            "note 0 0 0 0 0", "flew 0 1 0 0 0"}) {
            e.bad(none);
        }
        e.no("undo");
        e.no("from 0");
        e.no("from 1");
        e.due(-1, "meet 1 -1");
        e.due(-1, "doors 1 0");
        e.due(0, "summers 999999 60");
        e.due(0, "clear");
        e.faults(0, "");
    }

    static void objectsOfTheirOwn() {
        Edge e = new Edge(1, "nothing is there");
        HailCellar x = new HailCellar();
        for (String call : SOME_STORE) {
            Edge.answer(x, call);
        }
        HailCellar y = new HailCellar();
        e.be("digest of another object, made behind", y.digest(), Due.mix(0, 0, 0, 0, 0, 0, 0, 0, 0, 0, 0, 0, 0, 1));
        e.be("from(0) of another object", y.from(0), -3);
        e.be("status(1) of the first", x.status(1), 0);
    }

    /** 511 calls, the last of them moments that come and go, then one more, which answers as it does behind few. */
    static void lastCall() {
        Edge e = new Edge(1, "An object is used for at most 512 calls after it has been made; what later calls answer is free.");
        String[] between = {"hour", "undo", "count 0", "wind 9", "undo", "week 60", "undo", "digest"};
        int fill = 511 - SOME_STORE.length;
        e.be("moments left over between", fill % between.length, 0);
        for (String last : LAST_CALLS) {
            HailCellar few = new HailCellar();
            HailCellar many = new HailCellar();
            for (String call : SOME_STORE) {
                Edge.answer(few, call);
                Edge.answer(many, call);
            }
            for (int i = 0; i < fill; i++) {
                Edge.answer(many, between[i % between.length]);
            }
            e.be(last + " as the 512th call", Edge.answer(many, last), Edge.answer(few, last));
        }
    }

    static void lastCallBehindRefusedOnes() {
        Edge e = new Edge(46, "An object is used for at most 512 calls after it has been made; what later calls answer is free.");
        String[] refused = {"door 0", "undo", "type 300"};
        for (int what = 0; what <= 2; what++) {
            HailCellar x = new HailCellar();
            for (int i = 0; i < 511; i++) {
                Edge.answer(x, refused[i % 3]);
            }
            e.be("status(" + what + ") as the 512th call", x.status(what), what == 0 ? 341 : what == 1 ? 170 : 0);
        }
        HailCellar full = new HailCellar();
        for (int i = 0; i < 511; i++) {
            full.cloud(1, 1);
        }
        e.be("status(2) as the 512th call", full.status(2), 507);
    }

    static void storeWind() {
        Edge e = new Edge(2, "THE WIND, all else as at first");
        e.due(0, "count 4");
        e.due(0, "store 9");
        e.due(9, "count 4");
        e.badAround("store ?", 0, 9);
        e.due(9, "count 4");
        e.due(0, "store 0");
        e.due(0, "count 4");
        e.due(0, "store 1");
        e.due(0, "store 8");
        e.due(8, "count 4");
    }

    static void storeAllElseAsAtFirst() {
        Edge e = new Edge(2, "all else as at first");
        e.make(SOME_STORE);
        e.bad("store 10");
        e.due(2, "store 9");
        e.due(Due.mix(0, 0, 0, 0, 9, 0, 0, 0, 0, 0, 0, 1, 0, 1), "digest");
        e.no("undo");
        e.due(0, "cellar 0 0");
        e.due(0, "of 0 3");
        e.due(0, "slinger 0 0");
        e.due(0, "cloud 30 40");
        e.due(0, "sky 0 2");
        e.due(1, "rings 0 0 1 1");
        e.due(63, "is 0");
        e.due(63, "who 0");
        e.due(1, "note 0 0 0 0 0");
        e.due(1, "flew 0 1 0 0 0");
    }

    static void storeKeeps() {
        Edge e = new Edge(2, "(but for IMAGES, THE TEXT, THE FRACTION, STATUS)");
        e.make("slinger 0 9", "cloud 1 1", "gusts 0 0 1 3 5", "image 0", "cellar 0 0", "image 1");
        e.make("gusts 0 0 4 9 10", "gusts 0 0 9 1 1");
        e.text("store 7;");
        e.bad("door 1");
        e.no("undo");
        e.due(1, "store 2");
        e.due(Due.mix(0, 0, 0, 0, 2, 0, 0, 0, 0, 0, 0, 8, 3, 1), "digest");
        e.due(1, "status 0");
        e.due(1, "status 1");
        e.due(1, "from 1");
        e.due(1, "count 0");
        e.due(1, "from 0");
        e.due(0, "count 0");
        e.due(1, "count 2");
        e.due(1, "read");
        e.due(7, "count 4");
        e.due(8, "clear");
    }

    static void storeCellarsBefore() {
        Edge e = new Edge(2, "how many CELLARS there were. BAD.");
        e.due(0, "store 0");
        e.make("cellar 0 0");
        e.bad("store -1");
        e.due(1, "store 0");
        e.make(5, "cellar 3 0");
        e.full("cellar 3 0");
        e.due(5, "store 0");
        e.due(0, "store 0");
    }

    static void cellarHasNoStones() {
        Edge e = new Edge(3, "A CELLAR (no STONES): its number.");
        e.make("cellar 2 2", "stones 0 1 99", "stones 0 9 99", "store 0");
        e.due(0, "cellar 4 9");
        e.due(0, "of 0 3");
        for (int r = 1; r <= 9; r++) {
            e.due(0, "has 0 " + r);
        }
        e.make("stones 0 5 5");
        e.due(1, "cellar 0 0");
        e.due(0, "of 1 3");
        e.due(5, "of 0 3");
    }

    static void sixthCellar() {
        Edge e = new Edge(3, "BAD; FULL: 5.");
        for (int c = 0; c <= 4; c++) {
            e.due(c, "cellar " + c + " " + c);
        }
        e.full("cellar 0 0");
        e.full("cellar 5 9");
        e.bad("cellar 6 0");
        e.bad("cellar 0 10");
        e.due(5, "count 0");
        e.make("stones 4 9 1");
        e.bad("stones 5 9 1");
        e.make("store 0");
        e.due(0, "cellar 0 0");
    }

    static void cellarKindAndStraw() {
        Edge e = new Edge(3, "4, as they come: a KIND, STRAW (0 .. 9), STONES of 1 to 9 RINGS (how many of each; 99 at most).");
        e.badAround("cellar ? 0", 0, 5);
        e.badAround("cellar 0 ?", 0, 9);
        e.bad("cellar -1 10");
        e.due(0, "cellar 0 9");
        e.due(1, "cellar 5 0");
        e.due(2, "cellar 1 1");
        e.due(3, "cellar 4 8");
        int[] kinds = {0, 5, 1, 4};
        int[] straws = {9, 0, 1, 8};
        for (int c = 0; c < 4; c++) {
            e.due(kinds[c], "of " + c + " 0");
            e.due(straws[c], "of " + c + " 1");
        }
    }

    static void stonesThatCome() {
        Edge e = new Edge(4, "n (1 .. 99) STONES of r RINGS come into a CELLAR (99 at most)");
        e.make("cellar 0 0", "cellar 0 0", "hour");
        e.badAround("stones 0 1 ?", 1, 99);
        e.due(1, "count 10");
        e.due(1, "stones 0 1 1");
        e.due(99, "stones 0 2 99");
        e.due(98, "stones 0 3 98");
        e.due(2, "stones 0 1 1");
        e.due(99, "stones 0 3 1");
        e.due(99, "stones 0 1 97");
        e.due(99, "stones 0 1 1");
        e.due(99, "stones 0 2 99");
        e.due(97, "stones 1 9 97");
        e.due(98, "stones 1 9 1");
        e.due(99, "stones 1 9 2");
        e.due(99, "has 1 9");
        e.due(4 * 99, "count 5");
    }

    static void stonesOfEachRings() {
        Edge e = new Edge(4, "STONES of 1 to 9 RINGS (how many of each; 99 at most)");
        e.make("cellar 3 0", "cellar 3 0");
        e.badAround("stones 0 ? 1", 1, 9);
        for (int r = 1; r <= 9; r++) {
            e.due(99, "stones 0 " + r + " 99");
            e.due(r, "stones 1 " + r + " " + r);
        }
        e.due(891, "of 0 3");
        for (int r = 1; r <= 9; r++) {
            e.due(99, "has 0 " + r);
            e.due(r, "has 1 " + r);
        }
        e.due(891 + 45, "count 5");
    }

    static void stonesInACellarThatIs() {
        Edge e = new Edge(4, "how many there are of these. BAD.");
        e.bad("stones 0 9 1");
        e.make("cellar 0 0");
        e.badAround("stones ? 9 1", 0, 0);
        e.due(1, "stones 0 9 1");
        e.make(4, "cellar 0 0");
        e.badAround("stones ? 9 1", 0, 4);
        e.due(3, "stones 4 9 3");
        e.due(1, "has 0 9");
    }

    static void strawOfACellar() {
        Edge e = new Edge(5, "STRAW of a CELLAR: what it was. BAD.");
        e.bad("straw 0 0");
        e.make("cellar 0 4", "hour");
        e.badAround("straw ? 0", 0, 0);
        e.badAround("straw 0 ?", 0, 9);
        e.due(4, "straw 0 9");
        e.due(9, "straw 0 0");
        e.due(0, "straw 0 8");
        e.due(8, "straw 0 1");
        e.due(1, "of 0 1");
        e.make(4, "cellar 0 2");
        e.badAround("straw ? 3", 0, 4);
        e.due(2, "straw 4 3");
        e.due(2, "of 3 1");
    }

    static void seventhSlinger() {
        Edge e = new Edge(6, "A SLINGER: the number. BAD; FULL: 6.");
        for (int s = 0; s <= 5; s++) {
            e.due(s, "slinger " + s + " " + s);
        }
        e.full("slinger 0 0");
        e.full("slinger 5 9");
        e.bad("slinger 6 0");
        e.bad("slinger 0 10");
        e.due(6, "count 1");
        e.due(5, "about 5 1");
        e.make("store 0");
        e.due(0, "slinger 0 0");
    }

    static void slingerKindAndArm() {
        Edge e = new Edge(6, "SLINGERS 0 .. 5, as they come: a KIND, an ARM (0 .. 9).");
        e.make("hour");
        e.badAround("slinger ? 0", 0, 5);
        e.badAround("slinger 0 ?", 0, 9);
        e.due(0, "slinger 0 9");
        e.due(1, "slinger 5 0");
        e.due(2, "slinger 1 8");
        e.due(3, "slinger 4 1");
        int[] kinds = {0, 5, 1, 4};
        int[] arms = {9, 0, 8, 1};
        for (int s = 0; s < 4; s++) {
            e.due(kinds[s], "about " + s + " 0");
            e.due(arms[s], "about " + s + " 1");
        }
    }

    static void fifthCloud() {
        Edge e = new Edge(7, "A CLOUD: its number. BAD; FULL: 4.");
        for (int k = 0; k <= 3; k++) {
            e.due(k, "cloud " + (k + 1) + " " + (k + 1));
        }
        e.full("cloud 1 1");
        e.full("cloud 30 40");
        e.bad("cloud 0 1");
        e.bad("cloud 31 1");
        e.bad("cloud 1 41");
        e.due(4, "count 2");
        e.due(4, "sky 3 1");
        e.make("store 0");
        e.due(0, "cloud 1 1");
    }

    static void cloudFarAndNeed() {
        Edge e = new Edge(7, "CLOUDS 0 .. 3, as they come: how FAR (1 .. 30), how many HITS they NEED (1 .. 40); HITS of each (0 at first).");
        e.make("hour");
        e.badAround("cloud ? 1", 1, 30);
        e.badAround("cloud 1 ?", 1, 40);
        e.due(0, "cloud 1 40");
        e.due(1, "cloud 30 1");
        e.due(2, "cloud 2 39");
        e.due(3, "cloud 29 2");
        int[] fars = {1, 30, 2, 29};
        int[] needs = {40, 1, 39, 2};
        for (int k = 0; k < 4; k++) {
            e.due(fars[k], "sky " + k + " 0");
            e.due(needs[k], "sky " + k + " 1");
            e.due(0, "sky " + k + " 2");
            e.due(0, "sky " + k + " 3");
        }
    }

    static void cloudHasNoHitsOfOneBefore() {
        Edge e = new Edge(7, "HITS of each (0 at first)");
        e.make("cellar 4 0", "stones 0 9 1", "slinger 0 9", "cloud 1 1", "throwing 0 0 9 0");
        e.due(3, "sky 0 2");
        e.make("store 0", "cloud 1 1");
        e.due(0, "sky 0 2");
    }

    static void bytesOfTheText() {
        Edge e = new Edge(8, "A byte (0 .. 127) comes behind THE TEXT: how many it has. BAD; FULL.");
        e.badAround("type ?", 0, 127);
        e.bad("type 255");
        e.due(1, "type 0");
        e.due(2, "type 127");
        e.due(3, "type 1");
        e.due(4, "type 126");
        e.bad("type 128");
        e.due(4, "count 11");
        e.due(5, "type 10");
    }

    static void textOf150Bytes() {
        Edge e = new Edge(8, "a TEXT (150 bytes at most)");
        e.text("store 1;");
        for (int n = 9; n <= 150; n++) {
            e.due(n, "type 32");
        }
        e.full("type 32");
        e.full("type 59");
        e.full("type 127");
        e.bad("type 128");
        e.bad("type -1");
        e.due(150, "count 11");
        e.due(1, "read");
        e.due(150, "clear");
        e.due(1, "type 0");
    }

    static void textIsEmpty() {
        Edge e = new Edge(9, "THE TEXT is empty: how many it had.");
        e.due(0, "clear");
        e.due(0, "clear");
        e.due(1, "type 65");
        e.due(1, "clear");
        e.due(0, "count 11");
        e.faults(0, "");
        e.due(1, "type 115");
        e.make(149, "type 32");
        e.full("type 32");
        e.due(150, "clear");
        e.due(0, "clear");
        e.due(0, "count 11");
        e.due(1, "type 59");
    }

    static void badAheadOfFull() {
        Edge e = new Edge(3, "Refused, changing nothing but STATUS, the first of: BAD -2 a number is not as told; NO -3 as told; FULL -4");
        e.make("hour");
        e.make(5, "cellar 0 0");
        e.make(6, "slinger 0 0");
        e.make(4, "cloud 1 1");
        e.make("hour", "wind 1");
        for (String full : new String[] {"cellar 5 9", "slinger 5 9", "cloud 30 40"}) {
            e.full(full);
        }
        for (String bad : new String[] {"cellar -1 9", "cellar 5 -1", "slinger -1 9", "slinger 5 -1", "cloud 0 40", "cloud 30 0"}) {
            e.bad(bad);
        }
        e.due(2, "count 10");
        e.due(3, "status 2");
        e.due(6, "status 0");
    }

    public static void main(String[] args) throws Exception {
        Edge.runAll(StoreEdgeTest.class);
    }
}
