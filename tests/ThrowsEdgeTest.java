/** Promises 25 to 29: each sentence that names a bound, with calls at it and on both sides of it. */
public final class ThrowsEdgeTest {
    private static final int PLAIN = 0, CHILD = 1, STRONG = 2, HILL = 3, MASTER = 4, TWIN = 5;

    /** How far a slinger of a kind throws: arm, rings, wind, far. */
    private static void far(Edge e, int kind, int[]... throwsTold) {
        for (int[] t : throwsTold) {
            e.anew();
            e.make("store " + t[2], "slinger " + kind + " " + t[0]);
            e.due(t[3], "throwsOf 0 " + t[1] + " 0");
        }
    }

    /** How many hits a slinger of a kind makes by 1 to 9 rings, by any arm and any wind. */
    private static void hits(Edge e, int kind, int... byRings) {
        for (int wind = 0; wind <= 9; wind += 9) {
            e.anew();
            e.make("store " + wind, "slinger " + kind + " 0", "slinger " + kind + " 9");
            for (int r = 1; r <= 9; r++) {
                e.due(byRings[r - 1], "throwsOf 0 " + r + " 1");
                e.due(byRings[r - 1], "throwsOf 1 " + r + " 1");
            }
        }
    }

    static void sizes() {
        Edge e = new Edge(25, "SIZE of RINGS r: 1 (1 .. 3: a pea), 2 (4 .. 6: a walnut), 3 (7 .. 9: an egg).");
        e.make("slinger 0 0");
        int[] size = {1, 1, 1, 2, 2, 2, 3, 3, 3};
        for (int r = 1; r <= 9; r++) {
            e.due(size[r - 1], "throwsOf 0 " + r + " 1");
        }
        e.badAround("throwsOf 0 ? 1", 1, 9);
    }

    static void plain() {
        Edge e = new Edge(25, "0 PLAIN: twice a, and r, less v, 0 at least; its SIZE.");
        far(e, PLAIN, new int[][] {{0, 1, 0, 1}, {0, 1, 1, 0}, {0, 1, 2, 0}, {0, 9, 8, 1}, {0, 9, 9, 0}, {0, 8, 9, 0}, {9, 9, 0, 27},
            {9, 1, 9, 10}, {9, 1, 0, 19}, {1, 1, 2, 1}, {1, 1, 3, 0}, {1, 1, 4, 0}, {4, 5, 3, 10}});
        hits(e, PLAIN, 1, 1, 1, 2, 2, 2, 3, 3, 3);
    }

    static void child() {
        Edge e = new Edge(25, "1 CHILD (under PLAIN): as PLAIN, but 0, if r is above 3; 2 more than PLAIN.");
        far(e, CHILD, new int[][] {{9, 1, 0, 19}, {9, 2, 0, 20}, {9, 3, 0, 21}, {9, 4, 0, 0}, {9, 5, 0, 0}, {9, 9, 0, 0}, {9, 3, 9, 12},
            {0, 3, 2, 1}, {0, 3, 3, 0}, {0, 3, 4, 0}});
        hits(e, CHILD, 3, 3, 3, 4, 4, 4, 5, 5, 5);
    }

    static void strong() {
        Edge e = new Edge(25, "2 STRONG (under PLAIN): 4 more than PLAIN; as PLAIN.");
        far(e, STRONG, new int[][] {{0, 1, 0, 5}, {0, 1, 1, 4}, {0, 1, 2, 4}, {0, 1, 9, 4}, {0, 9, 9, 4}, {0, 9, 8, 5}, {9, 9, 0, 31},
            {9, 4, 3, 23}});
        hits(e, STRONG, 1, 1, 1, 2, 2, 2, 3, 3, 3);
    }

    static void hill() {
        Edge e = new Edge(25, "3 HILL (under PLAIN): PLAIN, less v again, 0 at least; 1 more than PLAIN, if r is 7 or more, else as PLAIN.");
        far(e, HILL, new int[][] {{0, 3, 0, 3}, {0, 3, 1, 1}, {0, 2, 1, 0}, {0, 1, 1, 0}, {0, 1, 2, 0}, {0, 5, 2, 1}, {0, 4, 2, 0},
            {0, 3, 2, 0}, {0, 9, 9, 0}, {9, 9, 9, 9}, {9, 9, 0, 27}, {4, 9, 8, 1}, {4, 8, 8, 0}, {4, 7, 8, 0}, {4, 1, 9, 0}});
        hits(e, HILL, 1, 1, 1, 2, 2, 2, 4, 4, 4);
    }

    static void master() {
        Edge e = new Edge(25, "4 MASTER (under STRONG): STRONG, as if v were 0; as STRONG.");
        far(e, MASTER, new int[][] {{0, 1, 0, 5}, {0, 1, 1, 5}, {0, 1, 9, 5}, {9, 9, 0, 31}, {9, 9, 9, 31}, {3, 4, 5, 14}});
        hits(e, MASTER, 1, 1, 1, 2, 2, 2, 3, 3, 3);
    }

    static void twin() {
        Edge e = new Edge(25, "5 TWIN (under CHILD): as CHILD; twice CHILD.");
        far(e, TWIN, new int[][] {{9, 3, 0, 21}, {9, 4, 0, 0}, {9, 9, 0, 0}, {9, 1, 9, 10}, {0, 1, 1, 0}, {0, 1, 2, 0}, {0, 2, 1, 1}});
        hits(e, TWIN, 6, 6, 6, 8, 8, 8, 10, 10, 10);
    }

    static void kinds() {
        Edge e = new Edge(25, "KINDS of SLINGERS, each under the one told, say how far one THROWS a STONE of r RINGS by ARM a, THE WIND v; how many HITS it makes:");
        int[] far = {13, 0, 17, 10, 20, 0};
        int[] hits = {3, 5, 3, 4, 3, 10};
        e.bad("slinger 6 4");
        e.bad("slinger -1 4");
        for (int kind = 0; kind <= 5; kind++) {
            e.make("store 3", "slinger " + kind + " 4");
            e.due(far[kind], "throwsOf 0 8 0");
            e.due(hits[kind], "throwsOf 0 8 1");
        }
    }

    static void throwsByTheWindNow() {
        Edge e = new Edge(25, "THROWS of a SLINGER, a STONE of r RINGS: how far; HITS;");
        e.make("slinger 0 2", "slinger 3 2", "slinger 4 2");
        for (int wind = 0; wind <= 9; wind++) {
            e.make("wind " + wind);
            e.due(Math.max(0, 9 - wind), "throwsOf 0 5 0");
            e.due(Math.max(0, 9 - 2 * wind), "throwsOf 1 5 0");
            e.due(13, "throwsOf 2 5 0");
            e.due(2, "throwsOf 0 5 1");
        }
        e.make("undo");
        e.due(1, "throwsOf 0 5 0");
    }

    static void throwsNumbers() {
        Edge e = new Edge(25, "THROWS: how far (0), HITS (1). BAD.");
        e.bad("throwsOf 0 1 0");
        for (int s = 0; s <= 5; s++) {
            e.make("slinger 0 " + s);
            e.badAround("throwsOf ? 1 0", 0, s);
            e.due(2 * s + 1, "throwsOf " + s + " 1 0");
        }
        e.badAround("throwsOf 0 ? 0", 1, 9);
        e.badAround("throwsOf 0 1 ?", 0, 1);
        e.due(19, "throwsOf 5 9 0");
        e.due(3, "throwsOf 5 9 1");
    }

    static void reachByRings() {
        Edge e = new Edge(26, "by which RINGS (bits 1 .. 9) one reaches a CLOUD now (HERE: by none).");
        // arm 0: r rings are r far
        e.make("slinger 0 0", "slinger 1 0", "cloud 1 1", "cloud 2 1", "cloud 9 1", "cloud 10 1");
        e.due(1022, "reach 0 0");
        e.due(1020, "reach 0 1");
        e.due(512, "reach 0 2");
        e.due(0, "reach 0 3");
        e.due(14, "reach 1 0");
        e.due(12, "reach 1 1");
        e.make("wind 1");
        e.due(1020, "reach 0 0");
        e.due(0, "reach 0 2");
        e.make("wind 9");
        e.due(0, "reach 0 0");
        e.make("wind 8");
        e.due(512, "reach 0 0");
    }

    static void reachHere() {
        Edge e = new Edge(26, "one reaches a CLOUD now (HERE: by none)");
        e.make("slinger 0 9", "cloud 1 1", "cloud 2 1", "cellar 4 9", "stones 0 1 1");
        e.due(1022, "reach 0 0");
        e.make("hour");
        e.due(0, "reach 0 0");
        e.due(1022, "reach 0 1");
        // one that is turned is reached still
        e.make("throwing 0 0 1 1", "hour");
        e.due(1022, "reach 0 1");
    }

    static void reachNumbers() {
        Edge e = new Edge(26, "By which RINGS (bits 1 .. 9). BAD.");
        e.bad("reach 0 0");
        e.make("slinger 0 0");
        e.bad("reach 0 0");
        e.make("cloud 1 1");
        e.badAround("reach ? 0", 0, 0);
        e.badAround("reach 0 ?", 0, 0);
        e.make(5, "slinger 0 0");
        e.make(3, "cloud 9 1");
        e.badAround("reach ? 3", 0, 5);
        e.badAround("reach 5 ?", 0, 3);
        e.due(512, "reach 5 3");
    }

    private static void turns(Edge e, int k, int s, int stones, int rings) {
        e.due(stones, "turn " + k + " " + s + " 0 0");
        e.due(rings, "turn " + k + " " + s + " 0 1");
    }

    static void turnNumbers() {
        Edge e = new Edge(27, "TURN: how many STONES (0), RINGS (1). NONE. BAD.");
        e.bad("turn 0 0 0 0");
        e.make("cloud 1 1");
        e.bad("turn 0 0 0 0");
        e.make("slinger 0 9");
        e.bad("turn 0 0 0 0");
        e.make("cellar 0 0");
        turns(e, 0, 0, -1, -1);
        e.badAround("turn ? 0 0 0", 0, 0);
        e.badAround("turn 0 ? 0 0", 0, 0);
        e.badAround("turn 0 0 ? 0", 0, 0);
        e.badAround("turn 0 0 0 ?", 0, 1);
        e.make(3, "cloud 1 1");
        e.make(5, "slinger 0 9");
        e.make(4, "cellar 0 0");
        e.make("stones 4 9 1");
        e.badAround("turn ? 5 4 0", 0, 3);
        e.badAround("turn 3 ? 4 0", 0, 5);
        e.badAround("turn 3 5 ? 0", 0, 4);
        e.due(1, "turn 3 5 4 0");
        e.due(9, "turn 3 5 4 1");
        e.due(-1, "turn 3 5 3 0");
    }

    static void fewestStonesThenFewestRings() {
        Edge e = new Edge(27, "the fewest STONES so that it is TURNED; of these ways the fewest RINGS together;");
        e.make("cellar 5 0", "slinger 0 9", "cloud 1 6", "cloud 1 5", "cloud 1 7", "stones 0 1 9");
        turns(e, 0, 0, 6, 6);
        e.make("stones 0 6 2");
        // 2 and 2 and 1 and 1
        turns(e, 0, 0, 4, 14);
        turns(e, 1, 0, 3, 13);
        e.make("stones 0 9 1");
        // 3 and 2 and 1
        turns(e, 0, 0, 3, 16);
        turns(e, 1, 0, 2, 15);
        e.make("stones 0 8 1");
        turns(e, 0, 0, 2, 17);
        turns(e, 1, 0, 2, 14);
        turns(e, 2, 0, 3, 18);
        e.make("stones 0 7 1", "stones 0 4 1");
        turns(e, 0, 0, 2, 15);
        turns(e, 1, 0, 2, 11);
        turns(e, 2, 0, 3, 16);
        e.make("stones 0 5 1");
        // 7: 3 and 2 and 2
        turns(e, 2, 0, 3, 16);
    }

    static void enoughStones() {
        Edge e = new Edge(27, "TURN a CLOUD now by one SLINGER with STONES of one CELLAR as they are (DOORS cost nothing here)");
        e.make("cellar 5 0", "slinger 0 9", "cloud 1 40", "stones 0 1 39");
        turns(e, 0, 0, -1, -1);
        e.make("stones 0 1 1");
        turns(e, 0, 0, 40, 40);
        e.make("stones 0 1 59");
        turns(e, 0, 0, 40, 40);
        e.make("stones 0 9 13");
        turns(e, 0, 0, 14, 13 * 9 + 1);
        e.make("stones 0 9 1");
        turns(e, 0, 0, 14, 13 * 9 + 1);
        e.due(113, "count 5");
        e.anew();
        e.make("cellar 5 0", "slinger 5 9", "cloud 1 40", "cloud 1 36", "cloud 1 37", "stones 0 3 6");
        turns(e, 0, 0, -1, -1);
        turns(e, 1, 0, 6, 18);
        turns(e, 2, 0, -1, -1);
        e.make("stones 0 2 1");
        turns(e, 0, 0, 7, 20);
        turns(e, 1, 0, 6, 17);
        turns(e, 2, 0, 7, 20);
    }

    static void eachThrownReachesIt() {
        Edge e = new Edge(27, "each thrown reaching it");
        e.make("cellar 3 0", "slinger 0 0", "cloud 5 2", "cloud 9 3", "cloud 10 1", "cloud 4 4");
        e.make("stones 0 4 9", "stones 0 3 9");
        turns(e, 0, 0, -1, -1);
        turns(e, 3, 0, 2, 8);
        e.make("stones 0 5 1");
        turns(e, 0, 0, 1, 5);
        turns(e, 1, 0, -1, -1);
        e.make("stones 0 9 1");
        turns(e, 1, 0, 1, 9);
        turns(e, 2, 0, -1, -1);
        e.make("wind 1");
        turns(e, 0, 0, 1, 9);
        turns(e, 1, 0, -1, -1);
        e.make("wind 0", "hour");
        turns(e, 0, 0, 1, 4);
        turns(e, 2, 0, 1, 9);
        e.make(4, "hour");
        // cloud 0 is here
        turns(e, 0, 0, -1, -1);
    }

    static void turnedAlready() {
        Edge e = new Edge(27, "0, 0: it is; none.");
        e.make("cellar 4 0", "stones 0 1 9", "slinger 0 9", "slinger 0 0", "cloud 3 2");
        turns(e, 0, 0, 2, 2);
        e.make("throwing 0 0 1 0");
        turns(e, 0, 0, 1, 1);
        turns(e, 0, 1, -1, -1);
        e.make("throwing 0 0 1 0");
        turns(e, 0, 0, 0, 0);
        turns(e, 0, 1, 0, 0);
        e.make("throwing 0 0 1 0");
        turns(e, 0, 0, 0, 0);
        e.make("week 60", "door 0");
        turns(e, 0, 1, 0, 0);
    }

    static void meetNumbers() {
        Edge e = new Edge(28, "MEET: how many (s = NONE), whose CLOUD. NONE: no CLOUDS (whatever s is). BAD: -10.");
        e.badAround(-10, "meet ? -1", 1, 9);
        e.badAround(-10, "meet ? 9", 1, 9);
        for (int s : new int[] {-1, 0, 5, 6, -2, Integer.MAX_VALUE, Integer.MIN_VALUE}) {
            e.due(-1, "meet 1 " + s);
            e.due(-1, "meet 9 " + s);
        }
        e.make("slinger 0 0");
        e.due(-1, "meet 1 0");
        e.due(-1, "meet 1 1");
        e.make("cloud 2 2");
        e.badAround(-10, "meet ? -1", 1, 9);
        e.badAround(-10, "meet ? 0", 1, 9);
        e.badAround(-10, "meet 1 ?", -1, 0);
        e.due(0, "meet 1 -1");
        e.due(0, "meet 1 0");
        e.due(1, "meet 2 -1");
        e.make(5, "slinger 0 0");
        e.badAround(-10, "meet 9 ?", -1, 5);
        e.due(0, "meet 9 5");
        e.due(1, "meet 9 -1");
    }

    static void meetWithoutSlingers() {
        Edge e = new Edge(28, "so that most are TURNED at the end: how many;");
        e.make("cloud 1 1");
        e.due(0, "meet 9 -1");
        e.badAs(-10, "meet 9 0");
        e.badAs(-10, "meet 9 -2");
    }

    static void thirtyHours() {
        Edge e = new Edge(28, "and throws a STONE of r (1 .. 9) RINGS each HOUR (there are enough) at it, then the HOUR goes by, 30 HOURS");
        // arm 9, 3 rings: 25 far, a hit; a cloud that is 30 far comes to 25 behind 5 hours, to 1 behind 29
        for (int far = 24; far <= 30; far++) {
            int hits = Math.min(25, far);
            e.anew();
            e.make("slinger 2 9", "cloud " + far + " " + hits);
            e.due(1, "meet 3 -1");
            e.anew();
            e.make("slinger 2 9", "cloud " + far + " " + (hits + 1));
            e.due(0, "meet 3 -1");
        }
        e.anew();
        // there are enough: no cellar is asked
        e.make("slinger 4 9", "cloud 30 40");
        e.due(1, "meet 9 -1");
        e.due(0, "meet 1 -1");
    }

    static void hereAreNotHit() {
        Edge e = new Edge(28, "those HERE are not HIT");
        e.make("slinger 0 9", "cloud 1 1", "cloud 2 1", "cloud 3 4");
        e.due(1, "meet 1 -1");
        e.due(0, "meet 1 0");
        e.make("hour");
        e.due(1, "meet 1 -1");
        e.due(1, "meet 1 0");
        e.make("hour");
        e.due(0, "meet 1 -1");
        e.due(0, "meet 1 0");
        e.due(0, "meet 4 -1");
        // cloud 2 is 1 far: one throw of 3 hits is too few
        e.due(0, "meet 9 -1");
        e.make("slinger 5 9");
        e.due(1, "meet 3 -1");
        e.due(0, "meet 3 0");
        e.due(2, "meet 3 1");
    }

    static void givenThoseHereAndTurnedToo() {
        Edge e = new Edge(28, "MEET: each SLINGER is given one CLOUD (those HERE, TURNED, too)");
        e.make("cellar 4 0", "stones 0 1 1", "slinger 0 9", "cloud 1 9", "cloud 9 1");
        e.make("hour", "throwing 0 0 1 1");
        e.due(1, "count 6");
        e.due(1, "meet 1 -1");
        // the first way gives him the cloud that is here
        e.due(0, "meet 1 0");
        e.anew();
        e.make("cellar 4 0", "stones 0 1 1", "slinger 0 9", "slinger 0 9", "cloud 9 1", "cloud 9 8", "throwing 0 0 1 0");
        // both are turned if one throws at cloud 1: the first way gives slinger 0 the one that is turned
        e.due(2, "meet 1 -1");
        e.due(0, "meet 1 0");
        e.due(1, "meet 1 1");
    }

    static void firstSuchWay() {
        Edge e = new Edge(28, "whose CLOUD in the first such way (rising by SLINGERS); none: no CLOUDS.");
        // each turns any one cloud alone
        e.make("slinger 0 9", "slinger 0 9", "slinger 0 9", "cloud 9 9", "cloud 9 9", "cloud 9 9");
        e.due(3, "meet 1 -1");
        e.due(0, "meet 1 0");
        e.due(1, "meet 1 1");
        e.due(2, "meet 1 2");
        e.make("cloud 30 40");
        e.due(3, "meet 1 -1");
        e.due(2, "meet 1 2");
        e.anew();
        // arm 0, 1 ring: 1 far, a hit; arm 9: 19 far. Cloud 0 needs the strong arm, cloud 1 any
        e.make("slinger 0 0", "slinger 0 9", "cloud 19 19", "cloud 1 1");
        e.due(2, "meet 1 -1");
        e.due(1, "meet 1 0");
        e.due(0, "meet 1 1");
        e.anew();
        // one more than both make together
        e.make("slinger 0 0", "slinger 0 9", "cloud 19 20", "cloud 19 21");
        e.due(1, "meet 1 -1");
        e.due(0, "meet 1 0");
        e.due(0, "meet 1 1");
        e.anew();
        e.make("slinger 0 0", "slinger 0 9", "cloud 19 21", "cloud 19 20");
        e.due(1, "meet 1 -1");
        e.due(1, "meet 1 0");
        e.due(1, "meet 1 1");
        e.anew();
        // the first alone turns cloud 1, and nothing cloud 0: the second is given cloud 0 all the same
        e.make("slinger 0 9", "slinger 0 0", "cloud 19 40", "cloud 19 19", "cloud 19 40");
        e.due(1, "meet 1 -1");
        e.due(1, "meet 1 0");
        e.due(0, "meet 1 1");
        e.anew();
        e.make("slinger 0 0", "slinger 0 9", "cloud 19 21", "cloud 19 21");
        e.due(0, "meet 1 -1");
        e.due(0, "meet 1 0");
        e.due(0, "meet 1 1");
    }

    static void sixSlingersFourClouds() {
        Edge e = new Edge(28, "so that most are TURNED at the end");
        for (int s = 0; s <= 5; s++) {
            e.make("slinger 0 " + s);
        }
        // 1 ring: 1, 3, 5, 7, 9, 11 hits in all; the clouds need 36 together, just so much as there is
        e.make("cloud 11 12", "cloud 11 12", "cloud 11 11", "cloud 11 1");
        int[] way = {3, 0, 1, 1, 0, 2};
        e.due(4, "meet 1 -1");
        for (int s = 0; s <= 5; s++) {
            e.due(way[s], "meet 1 " + s);
        }
        e.make("wind 1");
        e.due(3, "meet 1 -1");
        e.due(0, "meet 1 0");
        e.due(4, "count 2");
    }

    static void doorsNumbers() {
        Edge e = new Edge(29, "DOORS: which (0), how many (1). NONE. BAD.");
        e.badAround("doors ? 0", 1, 9);
        e.badAround("doors 1 ?", 0, 1);
        e.due(-1, "doors 1 0");
        e.due(-1, "doors 9 1");
        e.make("cellar 0 0", "stones 0 9 4");
        e.badAround("doors ? 1", 1, 9);
        e.badAround("doors 9 ?", 0, 1);
        e.due(0, "doors 1 0");
        e.due(0, "doors 1 1");
        e.due(0, "doors 8 1");
        e.due(0, "doors 9 0");
        e.due(4, "doors 9 1");
    }

    static void rRingsOrMore() {
        Edge e = new Edge(29, "DOORS: of the CELLARS that have STONES of r RINGS or more that whose DOOR, opened now, makes these fewest less;");
        e.make("cellar 0 0", "cellar 0 0", "cellar 5 0", "cellar 4 0");
        e.make("stones 0 5 3", "stones 1 5 2", "stones 1 4 9", "stones 2 6 1", "stones 2 9 9");
        // 5 or more: 3, 2, 1 less
        e.due(2, "doors 5 0");
        e.due(1, "doors 5 1");
        // 4 or more: 0, 9, 0 less
        e.due(0, "doors 4 0");
        e.due(0, "doors 4 1");
        // 6 or more: only cellar 2 has such
        e.due(2, "doors 6 0");
        e.due(1, "doors 6 1");
        e.due(2, "doors 7 0");
        e.due(0, "doors 7 1");
        e.due(2, "doors 8 0");
        e.due(9, "doors 8 1");
        e.due(9, "doors 9 1");
        e.make("stones 3 9 99");
        e.due(3, "doors 9 0");
        e.due(0, "doors 9 1");
        e.due(123, "count 5");
    }

    static void ofLikeOnesTheFirst() {
        Edge e = new Edge(29, "of like ones the first; by how many; none: no CELLAR has one.");
        e.make("cellar 3 0", "cellar 3 0", "cellar 3 0", "cellar 3 0", "cellar 3 0");
        for (int r = 1; r <= 9; r++) {
            e.due(-1, "doors " + r + " 0");
            e.due(-1, "doors " + r + " 1");
        }
        e.make("stones 4 3 2");
        e.due(4, "doors 3 0");
        e.due(2, "doors 3 1");
        e.due(-1, "doors 4 0");
        e.make("stones 3 3 2");
        e.due(3, "doors 3 0");
        e.make("stones 1 3 3");
        e.due(3, "doors 3 0");
        e.make("stones 2 3 1");
        e.due(2, "doors 3 0");
        e.due(1, "doors 3 1");
        e.make("stones 0 3 1");
        e.due(0, "doors 3 0");
        e.due(1, "doors 3 1");
    }

    public static void main(String[] args) throws Exception {
        Edge.runAll(ThrowsEdgeTest.class);
    }
}
