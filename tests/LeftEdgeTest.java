/** Promises 21 to 24: each sentence that names a bound, with calls at it and on both sides of it. */
public final class LeftEdgeTest {
    private static void goTo(Edge e, int week) {
        for (int left = week; left > 0; left -= 60) {
            e.make("week " + Math.min(60, left));
        }
        e.due(week, "count 3");
    }

    /** By how many a cellar of a kind melts with a straw, in weeks that are told one by one; and what its door costs. */
    private static void melts(Edge e, int kind, int straw, int cost, int[]... weeksAndMelts) {
        e.anew();
        e.make("cellar " + kind + " " + straw);
        for (int[] one : weeksAndMelts) {
            e.due(one[1], "melts 0 " + one[0]);
        }
        e.due(cost, "of 0 2");
    }

    static void kinds() {
        Edge e = new Edge(21, "KINDS of CELLARS, each under the one told, say by how many RINGS all STONES MELT in WEEK w with STRAW s; by how many a DOOR opened costs:");
        int[] melts = {1, 1, 2, 0, 1, 2};
        int[] costs = {1, 1, 1, 1, 0, 2};
        e.bad("cellar 6 7");
        e.bad("cellar -1 7");
        for (int kind = 0; kind <= 5; kind++) {
            e.make("store 0", "cellar " + kind + " 7", "week 1", "stones 0 9 1");
            e.due(melts[kind], "melts 0 1");
            e.make("week 1");
            e.due(1, "has 0 " + (9 - melts[kind]));
            e.due(costs[kind], "of 0 2");
            e.make("door 0");
            e.due(1, "has 0 " + (9 - melts[kind] - costs[kind]));
        }
    }

    static void plain() {
        Edge e = new Edge(21, "0 PLAIN: 1, but 0 in WEEKS of an even number, if s is 5 or more; 1.");
        for (int straw : new int[] {0, 3, 4}) {
            melts(e, 0, straw, 1, new int[][] {{0, 1}, {1, 1}, {2, 1}, {3, 1}, {998, 1}, {999, 1}});
        }
        for (int straw : new int[] {5, 6, 8, 9}) {
            melts(e, 0, straw, 1, new int[][] {{0, 0}, {1, 1}, {2, 0}, {3, 1}, {4, 0}, {998, 0}, {999, 1}});
        }
    }

    static void deep() {
        Edge e = new Edge(21, "1 DEEP (under PLAIN): as PLAIN, but 0 in WEEKS that leave 0 by 3; as PLAIN.");
        for (int straw : new int[] {0, 4}) {
            melts(e, 1, straw, 1, new int[][] {{0, 0}, {1, 1}, {2, 1}, {3, 0}, {4, 1}, {5, 1}, {6, 0}, {998, 1}, {999, 0}});
        }
        for (int straw : new int[] {5, 7, 8, 9}) {
            melts(e, 1, straw, 1, new int[][] {{0, 0}, {1, 1}, {2, 0}, {3, 0}, {4, 0}, {5, 1}, {7, 1}, {9, 0}, {997, 1}, {998, 0}, {999, 0}});
        }
    }

    static void south() {
        Edge e = new Edge(21, "2 SOUTH (under PLAIN): 1 more than PLAIN; as PLAIN.");
        for (int straw : new int[] {0, 4}) {
            melts(e, 2, straw, 1, new int[][] {{0, 2}, {1, 2}, {2, 2}, {3, 2}, {998, 2}, {999, 2}});
        }
        for (int straw : new int[] {5, 8, 9}) {
            melts(e, 2, straw, 1, new int[][] {{0, 1}, {1, 2}, {2, 1}, {3, 2}, {998, 1}, {999, 2}});
        }
    }

    static void church() {
        Edge e = new Edge(21, "3 CHURCH (under PLAIN): 0; as PLAIN.");
        for (int straw : new int[] {0, 4, 5, 9}) {
            melts(e, 3, straw, 1, new int[][] {{0, 0}, {1, 0}, {2, 0}, {3, 0}, {997, 0}, {998, 0}, {999, 0}});
        }
    }

    static void well() {
        Edge e = new Edge(21, "4 WELL (under DEEP): as DEEP, but 0, if s is 8 or more; 0.");
        melts(e, 4, 4, 0, new int[][] {{0, 0}, {1, 1}, {2, 1}, {3, 0}, {998, 1}, {999, 0}});
        for (int straw : new int[] {5, 7}) {
            melts(e, 4, straw, 0, new int[][] {{0, 0}, {1, 1}, {2, 0}, {3, 0}, {5, 1}, {997, 1}, {998, 0}, {999, 0}});
        }
        for (int straw : new int[] {8, 9}) {
            melts(e, 4, straw, 0, new int[][] {{0, 0}, {1, 0}, {2, 0}, {3, 0}, {5, 0}, {997, 0}, {998, 0}, {999, 0}});
        }
    }

    static void wine() {
        Edge e = new Edge(21, "5 WINE (under SOUTH): as SOUTH; twice SOUTH.");
        for (int straw : new int[] {0, 4}) {
            melts(e, 5, straw, 2, new int[][] {{0, 2}, {1, 2}, {2, 2}, {3, 2}, {998, 2}, {999, 2}});
        }
        for (int straw : new int[] {5, 8, 9}) {
            melts(e, 5, straw, 2, new int[][] {{0, 1}, {1, 2}, {2, 1}, {3, 2}, {998, 1}, {999, 2}});
        }
    }

    static void meltsNumbers() {
        Edge e = new Edge(21, "MELTS in WEEK w (0 .. 999). BAD.");
        e.bad("melts 0 0");
        e.make("cellar 5 4");
        e.badAround("melts ? 0", 0, 0);
        e.badAround("melts 0 ?", 0, 999);
        e.due(2, "melts 0 0");
        e.due(2, "melts 0 1");
        e.due(2, "melts 0 998");
        e.due(2, "melts 0 999");
        e.make("straw 0 5", "week 3");
        e.due(1, "melts 0 0");
        e.due(2, "melts 0 999");
        e.make(4, "cellar 3 0");
        e.badAround("melts ? 1", 0, 4);
        e.due(0, "melts 4 1");
    }

    static void strawAsItIs() {
        Edge e = new Edge(21, "MELTS of a CELLAR in a WEEK;");
        e.make("cellar 0 4");
        e.due(1, "melts 0 0");
        e.make("straw 0 5");
        e.due(0, "melts 0 0");
        e.due(1, "melts 0 1");
    }

    static void thenWeeks() {
        Edge e = new Edge(22, "THEN: how many of its STONES there are behind m (0 .. 60) WEEKS");
        e.bad("then 0 0 0 0");
        e.make("cellar 0 5", "cellar 4 8", "stones 0 3 7", "stones 1 9 5", "stones 1 1 4");
        e.badAround("then 0 ? 0 0", 0, 60);
        e.badAround("then ? 0 0 0", 0, 1);
        // weeks 1, 3, 5 melt
        int[] greatest = {3, 3, 2, 2, 1, 1, 0, 0};
        for (int m = 0; m <= 7; m++) {
            e.due(greatest[m], "then 0 " + m + " 0 4");
            e.due(greatest[m] == 0 ? 0 : 7, "then 0 " + m + " 0 0");
        }
        e.due(0, "then 0 60 0 0");
        e.due(9, "then 1 60 0 0");
        e.due(9, "then 1 60 9 0");
        e.due(9, "then 1 59 9 4");
        e.due(0, "count 3");
    }

    static void thenDoors() {
        Edge e = new Edge(22, "with d (0 .. 9) DOORS opened ahead of each");
        e.make("cellar 3 0", "stones 0 9 5", "stones 0 8 4", "cellar 5 4", "stones 1 9 3", "cellar 4 8", "stones 2 1 2");
        e.badAround("then 0 1 ? 0", 0, 9);
        e.due(9, "then 0 0 9 0");
        e.due(9, "then 0 1 7 0");
        e.due(5, "then 0 1 8 0");
        e.due(1, "then 0 1 8 4");
        e.due(0, "then 0 1 9 0");
        e.due(9, "then 0 60 0 0");
        e.due(1, "then 0 2 4 4");
        e.due(1, "then 0 4 2 4");
        e.due(0, "then 0 3 3 4");
        // wine: a door costs 2, a week 2
        e.due(1, "then 1 1 3 4");
        e.due(0, "then 1 1 4 4");
        e.due(1, "then 1 2 1 4");
        e.due(0, "then 1 2 2 4");
        // a well: its doors cost none
        e.due(2, "then 2 60 9 0");
    }

    static void thenBySize() {
        Edge e = new Edge(22, "of SIZE 1, 2, 3, of all (0), the RINGS of the greatest one (4; 0: none).");
        e.make("cellar 3 0", "cellar 3 0");
        int[] stones = {1, 2, 4, 8, 16, 32, 64, 65, 66};
        for (int r = 1; r <= 9; r++) {
            e.make("stones 0 " + r + " " + stones[r - 1]);
        }
        e.badAround("then 0 0 0 ?", 0, 4);
        int[] asTheyAre = {258, 7, 56, 195, 9};
        int[] oneDoor = {257, 2 + 4 + 8, 16 + 32 + 64, 131, 8};
        int[] threeDoors = {251, 56, 195, 0, 6};
        int[] fiveDoors = {227, 32 + 64 + 65, 66, 0, 4};
        int[] sixDoors = {195, 195, 0, 0, 3};
        int[] eightDoors = {66, 66, 0, 0, 1};
        for (int what = 0; what <= 4; what++) {
            e.due(asTheyAre[what], "then 0 0 9 " + what);
            e.due(asTheyAre[what], "then 0 60 0 " + what);
            e.due(oneDoor[what], "then 0 1 1 " + what);
            e.due(threeDoors[what], "then 0 1 3 " + what);
            e.due(fiveDoors[what], "then 0 1 5 " + what);
            e.due(sixDoors[what], "then 0 1 6 " + what);
            e.due(eightDoors[what], "then 0 1 8 " + what);
            e.due(0, "then 0 1 9 " + what);
            e.due(0, "then 1 0 0 " + what);
        }
    }

    static void thenNumbers() {
        Edge e = new Edge(22, "THEN, by what 0 to 4. BAD.");
        e.make("cellar 0 0", "stones 0 4 3");
        e.badAround("then 0 0 0 ?", 0, 4);
        e.badAround("then ? 0 0 0", 0, 0);
        e.due(3, "then 0 0 0 0");
        e.due(0, "then 0 0 0 1");
        e.due(3, "then 0 0 0 2");
        e.due(0, "then 0 0 0 3");
        e.due(4, "then 0 0 0 4");
        e.make(4, "cellar 0 0");
        e.badAround("then ? 0 0 0", 0, 4);
        e.due(0, "then 4 0 0 4");
    }

    /** At week 999 the weeks that are thought of are 999, 1000, 1001, .. */
    static void beyond999() {
        Edge e = new Edge(22, "(Nothing is changed by these; WEEKS go beyond 999 in them.)");
        goTo(e, 998);
        e.make("cellar 1 0", "stones 0 9 4", "cellar 0 5", "stones 1 9 3");
        // DEEP: 998 melts, 999 does not, 1000 and 1001 do, 1002 does not, 1003 does
        int[] deep = {9, 8, 8, 7, 6, 6, 5};
        // PLAIN with straw 5: 999, 1001, 1003 melt
        int[] plain = {9, 9, 8, 8, 7, 7, 6};
        for (int m = 0; m <= 6; m++) {
            e.due(deep[m], "then 0 " + m + " 0 4");
            e.due(plain[m], "then 1 " + m + " 0 4");
        }
        e.make("week 1");
        for (int m = 0; m <= 5; m++) {
            e.due(deep[m + 1], "then 0 " + m + " 0 4");
            e.due(plain[m + 1], "then 1 " + m + " 0 4");
        }
        e.due(2, "lasts 0 8");
        e.due(3, "lasts 0 7");
        e.due(5, "lasts 0 6");
        e.due(1, "lasts 1 9");
        e.due(3, "lasts 1 8");
        e.due(0, "least 1 7 2");
        e.due(-1, "least 1 9 2");
        e.due(5, "least 0 8 2");
        e.due(7, "summers 0 0");
        e.due(999, "count 3");
        e.due(7, "count 5");
        e.anew();
        goTo(e, 999);
        // a well: no door costs; week 999 melts none, 1000 and 1001 melt
        e.make("cellar 4 0", "stones 0 2 1", "stones 0 1 1");
        e.due(2, "summers 5 1");
        e.due(1, "summers 5 2");
        e.due(0, "summers 5 3");
    }

    static void lastsWeeks() {
        Edge e = new Edge(23, "LASTS: in how many WEEKS (0 .. 99) there is no STONE of r or more RINGS in it first; none.");
        e.make("cellar 0 5");
        for (int r = 1; r <= 9; r++) {
            e.due(0, "lasts 0 " + r);
        }
        e.make("stones 0 5 3");
        e.due(0, "lasts 0 6");
        e.due(0, "lasts 0 9");
        // weeks 1, 3, 5, 7, 9 melt
        e.due(2, "lasts 0 5");
        e.due(4, "lasts 0 4");
        e.due(6, "lasts 0 3");
        e.due(8, "lasts 0 2");
        e.due(10, "lasts 0 1");
        e.make("week 1");
        e.due(1, "lasts 0 5");
        e.due(9, "lasts 0 1");
        e.make("straw 0 4");
        e.due(1, "lasts 0 5");
        e.due(5, "lasts 0 1");
        e.due(3, "count 5");
    }

    static void lastsLongest() {
        Edge e = new Edge(23, "in how many WEEKS (0 .. 99) there is no STONE of r or more RINGS in it first; none.");
        // of those that melt, DEEP melts least: from week 2 on in 5, 7, 11, 13, 17, 19, 23, 25, 29
        e.make("cellar 1 9", "stones 0 9 1", "week 2", "stones 0 9 1");
        e.due(28, "lasts 0 1");
        e.due(24, "lasts 0 2");
        e.make("cellar 4 7", "stones 1 9 1", "cellar 4 8", "stones 2 1 1", "cellar 3 0", "stones 3 1 1", "stones 3 9 1");
        e.due(28, "lasts 1 1");
        e.due(-1, "lasts 2 1");
        e.due(0, "lasts 2 2");
        e.due(-1, "lasts 3 9");
        e.due(-1, "lasts 3 1");
    }

    static void lastsNumbers() {
        Edge e = new Edge(23, "LASTS. NONE. BAD.");
        e.bad("lasts 0 1");
        e.make("cellar 3 0", "stones 0 9 1");
        e.badAround("lasts ? 1", 0, 0);
        e.badAround("lasts 0 ?", 1, 9);
        e.due(-1, "lasts 0 1");
        e.due(-1, "lasts 0 9");
        e.make(4, "cellar 0 0");
        e.badAround("lasts ? 1", 0, 4);
        e.due(0, "lasts 4 1");
    }

    static void leastStraw() {
        Edge e = new Edge(24, "STRAW: the least by which there is one of r RINGS or more in it behind m (0 .. 60) WEEKS; none.");
        e.make("cellar 0 9", "stones 0 6 1");
        e.badAround("least 0 6 ?", 0, 60);
        e.due(0, "least 0 6 0");
        e.due(-1, "least 0 7 0");
        e.due(5, "least 0 6 1");
        e.due(-1, "least 0 6 2");
        e.due(0, "least 0 5 1");
        e.due(5, "least 0 5 3");
        e.due(-1, "least 0 5 4");
        // weeks 0 to 5 melt by 6 with little straw, by 3 else; weeks 1, 3, .., 11 by 6
        e.due(0, "least 0 1 5");
        e.due(5, "least 0 1 6");
        e.due(5, "least 0 1 11");
        e.due(-1, "least 0 1 12");
        e.due(-1, "least 0 1 60");
        e.due(9, "of 0 1");
    }

    static void leastStrawOfAWell() {
        Edge e = new Edge(24, "STRAW: the least by which there is one of r RINGS or more in it behind m (0 .. 60) WEEKS; none.");
        e.make("cellar 4 0", "stones 0 2 1", "stones 0 1 50");
        e.due(0, "least 0 2 1");
        e.due(8, "least 0 2 2");
        e.due(0, "least 0 1 2");
        e.due(5, "least 0 1 3");
        e.due(5, "least 0 1 5");
        e.due(8, "least 0 1 6");
        e.due(8, "least 0 2 60");
        e.due(8, "least 0 1 60");
        e.due(-1, "least 0 3 60");
        e.make("cellar 3 9", "stones 1 1 1");
        e.due(0, "least 1 1 60");
        e.due(-1, "least 1 2 0");
        e.make("cellar 2 9", "stones 2 9 1");
        e.due(0, "least 2 7 1");
        e.due(5, "least 2 8 1");
        e.due(-1, "least 2 9 1");
    }

    static void leastNumbers() {
        Edge e = new Edge(24, "STRAW, the least. NONE. BAD.");
        e.bad("least 0 1 0");
        e.make("cellar 0 0");
        e.due(-1, "least 0 1 0");
        e.make("stones 0 9 1");
        e.badAround("least ? 1 0", 0, 0);
        e.badAround("least 0 ? 0", 1, 9);
        e.due(0, "least 0 1 0");
        e.due(0, "least 0 9 0");
        e.make(4, "cellar 3 0");
        e.badAround("least ? 1 0", 0, 4);
        e.due(-1, "least 4 1 0");
    }

    public static void main(String[] args) throws Exception {
        Edge.runAll(LeftEdgeTest.class);
    }
}
