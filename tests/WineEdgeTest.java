/** Promises 30 to 43: each sentence that names a bound, with calls at it and on both sides of it. */
public final class WineEdgeTest {
    static void ringsTold() {
        Edge e = new Edge(30, "in a CELLAR the greatest STONE had x (1 .. 9) RINGS as a WEEK w (0 .. 99) began, y (0 .. 9) as it ended.");
        e.bad("rings 0 0 1 0");
        e.make("cellar 0 0", "hour");
        e.badAround("rings ? 0 1 0", 0, 0);
        e.badAround("rings 0 ? 1 0", 0, 99);
        e.badAround("rings 0 0 ? 0", 1, 9);
        e.badAround("rings 0 0 9 ?", 0, 9);
        e.due(0, "count 7");
        e.due(1, "rings 0 0 1 0");
        e.due(2, "rings 0 99 9 9");
        e.due(3, "rings 0 1 9 0");
        e.due(4, "rings 0 98 1 1");
        e.due(1, "count 10");
        e.make(4, "cellar 0 0");
        e.make("forget 0");
        e.badAround("rings ? 0 1 0", 0, 4);
        e.due(1, "rings 4 5 6 3");
        e.due(4, "cooled 0");
    }

    static void yAboveX() {
        Edge e = new Edge(30, "RINGS: how many there are. BAD: y above x, too;");
        e.make("cellar 0 0");
        for (int x = 1; x <= 9; x++) {
            e.bad("rings 0 0 " + x + " " + (x + 1));
            e.due(1, "rings 0 0 " + x + " " + x);
            e.due(2, "rings 0 0 " + x + " " + (x - 1));
            e.make("forget 0");
        }
        e.bad("rings 0 0 1 9");
        e.bad("rings 0 0 8 9");
        e.due(0, "count 7");
    }

    static void fifthRings() {
        Edge e = new Edge(30, "FULL: 4.");
        e.make("cellar 0 0");
        for (int n = 1; n <= 4; n++) {
            e.due(n, "rings 0 " + n + " 9 8");
        }
        e.full("rings 0 5 9 8");
        e.full("rings 0 0 1 0");
        e.bad("rings 0 0 1 2");
        e.bad("rings 1 0 1 0");
        e.bad("rings 0 100 1 0");
        e.due(4, "count 7");
        e.make("forget 0");
        e.due(1, "rings 0 5 9 8");
    }

    static void ringsAreForOneStore() {
        Edge e = new Edge(30, "RINGS 0 .. 3, as they are told");
        e.make("cellar 0 0", "rings 0 0 9 8", "rings 0 0 9 7", "rings 0 0 9 6", "rings 0 0 9 5");
        for (int i = 0; i <= 3; i++) {
            e.due(1 << i, "cooled " + i);
        }
        e.bad("cooled 4");
        e.make("store 0", "cellar 0 0");
        e.bad("cooled 0");
    }

    static void cooledNumbers() {
        Edge e = new Edge(31, "COOLED by the i-th of RINGS told (0 on), as bits. BAD: there is none such, too.");
        e.bad("cooled 0");
        e.make("cellar 0 0");
        e.bad("cooled 0");
        for (int n = 0; n <= 3; n++) {
            e.make("rings 0 1 9 " + n);
            e.badAround("cooled ?", 0, n);
        }
        e.due(768, "cooled 0");
        e.due(128, "cooled 1");
        e.due(32, "cooled 3");
        e.make("forget 0");
        e.bad("cooled 0");
    }

    /** Which doors may have been opened in a cellar of a kind with a straw: week, x, y, bits. */
    private static void cooled(Edge e, int kind, int straw, int[]... told) {
        for (int[] t : told) {
            e.anew();
            e.make("cellar 3 9", "cellar " + kind + " " + straw);
            e.make("rings 1 " + t[0] + " " + t[1] + " " + t[2]);
            e.due(t[3], "cooled 0");
            e.due(t[3], "even 1");
            e.due(1023, "even 0");
        }
    }

    static void doorsThatMayHaveBeenOpened() {
        Edge e = new Edge(31, "COOLED: how many DOORS (bits 0 .. 9) may have been opened in it, by the i-th of them,");
        // a church: a door costs 1, it does not melt
        cooled(e, 3, 0, new int[][] {{0, 9, 9, 1}, {0, 9, 8, 2}, {0, 9, 1, 256}, {0, 9, 0, 512}, {0, 8, 0, 768}, {0, 1, 1, 1}, {0, 1, 0, 1022}});
        // plain: it melts by 1
        cooled(e, 0, 0, new int[][] {{0, 9, 9, 0}, {0, 9, 8, 1}, {0, 9, 1, 128}, {0, 9, 0, 768}, {0, 1, 1, 0}, {0, 1, 0, 1023}, {0, 2, 0, 1022}});
        // wine: a door costs 2, it melts by 2
        cooled(e, 5, 0, new int[][] {{0, 9, 9, 0}, {0, 9, 8, 0}, {0, 9, 7, 1}, {0, 9, 6, 0}, {0, 9, 5, 2}, {0, 9, 1, 8}, {0, 9, 0, 1008},
            {0, 2, 0, 1023}, {0, 3, 0, 1022}, {0, 4, 0, 1022}, {0, 5, 0, 1020}});
        // a well: a door costs none
        cooled(e, 4, 8, new int[][] {{1, 9, 9, 1023}, {1, 9, 8, 0}, {1, 1, 0, 0}, {1, 1, 1, 1023}});
        cooled(e, 4, 7, new int[][] {{1, 9, 9, 0}, {1, 9, 8, 1023}, {1, 1, 0, 1023}, {0, 1, 0, 0}, {0, 1, 1, 1023}});
    }

    static void zeroAtLeast() {
        Edge e = new Edge(31, "(so many RINGS less by them and by what it MELTS, 0 at least)");
        // south melts by 2 with little straw
        cooled(e, 2, 4, new int[][] {{0, 1, 0, 1023}, {0, 2, 0, 1023}, {0, 3, 0, 1022}, {0, 3, 1, 1}, {0, 9, 0, 896}, {0, 9, 7, 1}, {0, 2, 1, 0}});
    }

    static void strawAsItIs() {
        Edge e = new Edge(31, "with STRAW as it is");
        e.make("cellar 0 4", "rings 0 0 9 8", "rings 0 1 9 8", "rings 0 99 9 8", "rings 0 98 9 8");
        for (int i = 0; i <= 3; i++) {
            e.due(1, "cooled " + i);
        }
        e.make("straw 0 5");
        e.due(2, "cooled 0");
        e.due(1, "cooled 1");
        e.due(1, "cooled 2");
        e.due(2, "cooled 3");
        e.due(0, "even 0");
        e.make("straw 0 4");
        e.due(1, "even 0");
    }

    static void evenOfOneCellar() {
        Edge e = new Edge(32, "EVEN: how many (bits) by each of them that are of one CELLAR.");
        e.make("cellar 3 0", "cellar 3 0", "cellar 3 0");
        for (int c = 0; c <= 2; c++) {
            e.due(1023, "even " + c);
        }
        e.make("rings 0 0 3 0");
        e.due(1016, "even 0");
        e.due(1023, "even 1");
        e.make("rings 1 0 9 7", "rings 0 0 5 0");
        e.due(992, "even 0");
        e.due(4, "even 1");
        e.make("rings 0 0 9 0");
        e.due(512, "even 0");
        e.due(4, "even 1");
        e.due(1023, "even 2");
        e.make("forget 0");
        e.due(1023, "even 0");
        e.make("rings 0 0 9 9", "rings 0 0 9 8");
        e.due(0, "even 0");
    }

    static void evenNumbers() {
        Edge e = new Edge(32, "EVEN, as bits. BAD.");
        e.bad("even 0");
        for (int c = 0; c <= 4; c++) {
            e.make("cellar 0 0");
            e.badAround("even ?", 0, c);
            e.due(1023, "even " + c);
        }
    }

    static void noteNumbers() {
        Edge e = new Edge(33, "with STRAW s (0 .. 9) a CELLAR's STONES MELTED by x (0 .. 4) in WEEK w (0 .. 99), a DOOR cost c (0 .. 4).");
        e.bad("note 0 0 0 0 0");
        e.make("cellar 0 0", "hour");
        e.badAround("note ? 0 0 0 0", 0, 0);
        e.badAround("note 0 ? 0 0 0", 0, 9);
        e.badAround("note 0 0 ? 0 0", 0, 99);
        e.badAround("note 0 0 0 ? 0", 0, 4);
        e.badAround("note 0 0 0 0 ?", 0, 4);
        e.due(0, "count 8");
        e.due(1, "note 0 0 0 0 0");
        e.due(2, "note 0 9 0 0 0");
        e.due(3, "note 0 0 99 0 0");
        e.due(4, "note 0 0 0 4 0");
        e.due(5, "note 0 0 0 0 4");
        e.due(6, "note 0 9 99 4 4");
        e.due(1, "count 10");
        e.make("forget 1");
        e.make(4, "cellar 0 0");
        e.badAround("note ? 0 0 0 0", 0, 4);
        e.due(1, "note 4 0 0 1 1");
        e.due(1, "is 4");
        e.due(63, "is 3");
    }

    static void seventhNote() {
        Edge e = new Edge(33, "A NOTE: how many there are. BAD; FULL: 6.");
        e.make("cellar 0 0");
        for (int n = 1; n <= 6; n++) {
            e.due(n, "note 0 0 " + n + " 1 1");
        }
        e.full("note 0 0 7 1 1");
        e.full("note 0 9 99 4 4");
        e.bad("note 0 0 7 5 1");
        e.bad("note 0 10 7 1 1");
        e.bad("note 1 0 7 1 1");
        e.due(6, "count 8");
        e.make("forget 1");
        e.due(1, "note 0 0 7 1 1");
    }

    static void allSixNotesCount() {
        Edge e = new Edge(33, "NOTES 0 .. 5, as they come");
        for (int odd = 0; odd <= 5; odd++) {
            e.anew();
            e.make("cellar 0 0");
            for (int n = 0; n <= 5; n++) {
                // week 1, straw 0: plain and deep melt by 1; week 3: plain alone
                e.make(n == odd ? "note 0 0 3 1 1" : "note 0 0 1 1 1");
                e.due(n >= odd ? 1 : 3, "is 0");
            }
        }
    }

    static void flewNumbers() {
        Edge e = new Edge(34, "a SLINGER threw a STONE of r RINGS x (0 .. 60) far by a WIND v (0 .. 9), made h (0 .. 12) HITS.");
        e.bad("flew 0 1 0 0 0");
        e.make("slinger 0 0", "hour");
        e.badAround("flew ? 1 0 0 0", 0, 0);
        e.badAround("flew 0 ? 0 0 0", 1, 9);
        e.badAround("flew 0 1 ? 0 0", 0, 9);
        e.badAround("flew 0 1 0 ? 0", 0, 60);
        e.badAround("flew 0 1 0 0 ?", 0, 12);
        e.due(0, "count 9");
        e.due(1, "flew 0 1 0 0 0");
        e.due(2, "flew 0 9 0 0 0");
        e.due(3, "flew 0 1 9 0 0");
        e.due(4, "flew 0 1 0 60 0");
        e.due(5, "flew 0 1 0 0 12");
        e.due(6, "flew 0 9 9 60 12");
        e.due(1, "count 10");
        e.make("forget 2");
        e.make(5, "slinger 0 0");
        e.badAround("flew ? 1 0 0 0", 0, 5);
        e.due(1, "flew 5 9 0 9 4");
        e.due(8, "who 5");
        e.due(63, "who 4");
    }

    static void seventhThrown() {
        Edge e = new Edge(34, "THROWN: how many there are. BAD; FULL: 6.");
        e.make("slinger 0 0");
        for (int n = 1; n <= 6; n++) {
            e.due(n, "flew 0 " + n + " 0 " + n + " 1");
        }
        e.full("flew 0 7 0 7 3");
        e.full("flew 0 9 9 60 12");
        e.bad("flew 0 7 0 61 3");
        e.bad("flew 0 10 0 7 3");
        e.bad("flew 1 7 0 7 3");
        e.due(6, "count 9");
        e.make("forget 2");
        e.due(1, "flew 0 7 0 7 3");
    }

    static void allSixThrownCount() {
        Edge e = new Edge(34, "THROWN 0 .. 5, as they come");
        for (int odd = 0; odd <= 5; odd++) {
            e.anew();
            e.make("slinger 5 1");
            for (int n = 0; n <= 5; n++) {
                // by 1 ring plain and hill throw 3 far by no wind; by wind 1 plain throws 2 far
                e.make(n == odd ? "flew 0 1 1 2 1" : "flew 0 1 0 3 1");
                e.due(n >= odd ? 1 : 9, "who 0");
            }
        }
    }

    static void forgetNumbers() {
        Edge e = new Edge(35, "No RINGS (0), NOTES (1), THROWN (2): how many there were. BAD.");
        e.badAround("forget ?", 0, 2);
        for (int what = 0; what <= 2; what++) {
            e.due(0, "forget " + what);
        }
        e.make("cellar 0 0", "slinger 0 0");
        e.make(4, "rings 0 0 1 0");
        e.make(6, "note 0 0 0 0 0");
        e.make(5, "flew 0 1 0 0 0");
        e.make("hour");
        e.badAround("forget ?", 0, 2);
        e.due(4, "forget 0");
        e.due(0, "count 7");
        e.due(6, "count 8");
        e.due(5, "count 9");
        e.due(6, "forget 1");
        e.due(0, "count 8");
        e.due(5, "count 9");
        e.due(5, "forget 2");
        e.due(0, "count 9");
        e.due(0, "forget 0");
        e.due(1, "count 10");
        e.due(63, "is 0");
        e.due(63, "who 0");
        e.due(1023, "even 0");
    }

    static void isByNotes() {
        Edge e = new Edge(36, "IS: KINDS (bits) by which all NOTES of it are so.");
        // week 0, straw 4: melted by x, a door cost c
        int[][] meltCostKinds = {{0, 0, 16}, {0, 1, 10}, {0, 2, 0}, {1, 0, 0}, {1, 1, 1}, {1, 2, 0}, {2, 0, 0}, {2, 1, 4}, {2, 2, 32},
            {3, 1, 0}, {4, 4, 0}, {3, 2, 0}, {2, 3, 0}};
        for (int[] m : meltCostKinds) {
            e.anew();
            e.make("cellar 2 9", "cellar 0 0", "note 0 4 0 " + m[0] + " " + m[1]);
            e.due(m[2], "is 0");
            e.due(63, "is 1");
        }
        e.anew();
        e.make("cellar 2 9", "note 0 8 1 0 0");
        e.due(16, "is 0");
        e.make("note 0 7 1 1 0");
        e.due(16, "is 0");
        e.make("note 0 7 1 0 0");
        e.due(0, "is 0");
        e.due(3, "count 8");
    }

    static void isNumbers() {
        Edge e = new Edge(36, "IS, as bits. BAD.");
        e.bad("is 0");
        for (int c = 0; c <= 4; c++) {
            e.make("cellar " + c + " 0");
            e.badAround("is ?", 0, c);
            e.due(63, "is " + c);
        }
    }

    static void watchWeeks() {
        Edge e = new Edge(37, "WATCH: the WEEK (0 .. 11) by which, with its STRAW, the most of these KINDS that MELT alike and whose DOORS cost alike are fewest;");
        e.make("cellar 4 4");
        // all kinds, little straw: week 0: DEEP and CHURCH are alike; no week is better
        e.due(0, "watch 0");
        // much straw: week 0: PLAIN, DEEP and CHURCH; week 1: PLAIN and DEEP
        e.make("straw 0 5");
        e.due(1, "watch 0");
        e.make("straw 0 9");
        e.due(1, "watch 0");
        // PLAIN and DEEP: with much straw they differ first in week 3, else in week 0
        e.make("note 0 0 1 1 1");
        e.due(3, "is 0");
        e.due(3, "watch 0");
        e.make("straw 0 5");
        e.due(3, "watch 0");
        e.make("straw 0 4");
        e.due(0, "watch 0");
        e.make("forget 1", "note 0 0 0 0 1");
        // DEEP and CHURCH: they differ first in week 1
        e.due(10, "is 0");
        e.due(1, "watch 0");
        e.make("straw 0 9");
        e.due(1, "watch 0");
        e.make("forget 1", "note 0 5 0 0 1");
        // PLAIN, DEEP and CHURCH
        e.due(11, "is 0");
        e.due(1, "watch 0");
        e.make("straw 0 4");
        e.due(0, "watch 0");
    }

    static void watchTheFirst() {
        Edge e = new Edge(37, "of like ones the first; none: no KIND.");
        e.make("cellar 0 9", "note 0 0 3 0 1", "note 0 0 1 1 1");
        e.due(2, "is 0");
        e.due(0, "watch 0");
        e.make("note 0 0 1 1 2");
        e.due(0, "is 0");
        e.due(-1, "watch 0");
        e.make("forget 1");
        e.due(1, "watch 0");
    }

    static void watchNumbers() {
        Edge e = new Edge(37, "WATCH. NONE. BAD.");
        e.bad("watch 0");
        for (int c = 0; c <= 4; c++) {
            e.make("cellar 0 " + (2 * c + 1));
            e.badAround("watch ?", 0, c);
            e.due(c >= 2 ? 1 : 0, "watch " + c);
        }
        e.make("note 4 0 0 4 4");
        e.due(-1, "watch 4");
        e.due(1, "watch 3");
    }

    static void whoByThrown() {
        Edge e = new Edge(38, "WHO: KINDS (bits) by which all THROWN of one are so.");
        // arm 2; rings, wind, far, hits, kinds
        int[][] told = {{3, 0, 7, 1, 9}, {3, 0, 7, 3, 2}, {3, 0, 7, 6, 32}, {3, 0, 11, 1, 20}, {3, 0, 6, 1, 0}, {3, 0, 7, 2, 0},
            {3, 2, 5, 1, 1}, {3, 2, 3, 1, 8}, {3, 2, 9, 1, 4}, {3, 2, 11, 1, 16}, {4, 0, 0, 4, 2}, {4, 0, 0, 8, 32}, {4, 0, 8, 2, 9},
            {7, 0, 11, 3, 1}, {7, 0, 11, 4, 8}, {9, 9, 4, 3, 1}, {9, 9, 0, 4, 8}, {9, 9, 8, 3, 4}, {9, 9, 17, 3, 16}, {9, 9, 0, 10, 32},
            {1, 5, 0, 1, 9}, {1, 6, 0, 1, 9}, {9, 0, 60, 12, 0}, {1, 0, 0, 0, 0}};
        for (int[] t : told) {
            e.anew();
            e.make("slinger 4 9", "slinger 4 2", "flew 1 " + t[0] + " " + t[1] + " " + t[2] + " " + t[3]);
            e.due(t[4], "who 1");
            e.due(63, "who 0");
        }
    }

    static void whoNumbers() {
        Edge e = new Edge(38, "WHO, as bits. BAD.");
        e.bad("who 0");
        for (int s = 0; s <= 5; s++) {
            e.make("slinger " + s + " 0");
            e.badAround("who ?", 0, s);
            e.due(63, "who " + s);
        }
    }

    static void askOne() {
        Edge e = new Edge(39, "ASK: 10 r and v (RINGS 1 .. 9, WIND 0 .. 9) by which the most of these KINDS that THROW, HIT alike are fewest;");
        // all kinds; arm 0: by 1 ring PLAIN and HILL throw alike by any wind; by 2 rings, wind 1, all are unlike
        for (int arm = 0; arm <= 9; arm++) {
            e.make("store 9", "slinger 0 " + arm);
            e.due(arm == 0 ? 21 : 11, "ask 0");
        }
        // CHILD and TWIN hit unlike at once; STRONG and MASTER by wind 1
        e.make("store 9", "slinger 0 0", "flew 0 4 0 0 4");
        e.due(2, "who 0");
        e.due(10, "ask 0");
        e.make("store 0", "slinger 0 0", "flew 0 1 0 5 1");
        e.due(20, "who 0");
        e.due(11, "ask 0");
        e.make("store 0", "slinger 0 0", "flew 0 1 0 1 1");
        e.due(9, "who 0");
        e.due(21, "ask 0");
    }

    static void askTheLeast() {
        Edge e = new Edge(39, "of like ones the least; none: no KIND.");
        e.make("slinger 0 9", "flew 0 1 1 18 1");
        e.due(1, "who 0");
        e.due(10, "ask 0");
        e.make("flew 0 1 1 18 2");
        e.due(0, "who 0");
        e.due(-1, "ask 0");
        e.make("forget 2");
        e.due(11, "ask 0");
    }

    static void askNumbers() {
        Edge e = new Edge(39, "ASK. NONE. BAD.");
        e.bad("ask 0");
        for (int s = 0; s <= 5; s++) {
            e.make("slinger " + s + " 1");
            e.badAround("ask ?", 0, s);
            e.due(11, "ask " + s);
        }
        e.make("flew 5 1 0 0 0");
        e.due(-1, "ask 5");
        e.due(11, "ask 4");
    }

    /** Pairs that rest, if a and b make so many hits by one throw of 9 rings, at a cloud that needs so many. */
    private static void rests(Edge e, int kindA, int kindB, int need, int r, int bits) {
        e.anew();
        e.make("slinger " + kindA + " 9", "slinger " + kindB + " 9", "cloud 1 " + need);
        e.due(bits, "parishes 0 1 0 " + r);
        int swapped = bits & 9 | (bits & 2) << 1 | (bits & 4) >> 1;
        e.due(swapped, "parishes 1 0 0 " + r);
    }

    static void pairsThatRest() {
        Edge e = new Edge(40, "to each 0 less what it NEEDS yet behind both (0 at least), less 2 for throwing:");
        // a hit each: to throw is never worth 2
        rests(e, 0, 0, 1, 1, 1);
        rests(e, 0, 0, 40, 3, 1);
        // 2 hits each: worth just 2, if 2 are needed
        rests(e, 0, 0, 1, 4, 1);
        rests(e, 0, 0, 2, 4, 7);
        rests(e, 0, 0, 3, 4, 7);
        rests(e, 0, 0, 4, 6, 15);
        rests(e, 0, 0, 40, 6, 15);
        // 3 hits each
        rests(e, 0, 0, 1, 7, 1);
        rests(e, 0, 0, 2, 7, 7);
        rests(e, 0, 0, 3, 7, 6);
        rests(e, 0, 0, 4, 9, 6);
        rests(e, 0, 0, 5, 9, 14);
        rests(e, 0, 0, 6, 9, 8);
        rests(e, 0, 0, 40, 9, 8);
        // 4 hits by a (HILL), 3 by b
        rests(e, 3, 0, 3, 9, 6);
        rests(e, 3, 0, 4, 9, 6);
        rests(e, 3, 0, 5, 9, 6);
        rests(e, 3, 0, 6, 9, 10);
        rests(e, 3, 0, 7, 9, 8);
        // b reaches nothing by 9 rings (CHILD)
        rests(e, 0, 1, 1, 9, 1);
        rests(e, 0, 1, 2, 9, 3);
        rests(e, 0, 1, 3, 9, 2);
    }

    static void whichPairs() {
        Edge e = new Edge(40, "pairs that rest (bits: 0 neither, 1 a, 2 b, 3 both; neither would get more by doing otherwise).");
        // 3 hits each: to throw first is worth what is needed, 3 at most; to throw too, what is needed then
        int[] bits = {1, 7, 6, 6, 14, 8, 8};
        for (int need = 1; need <= bits.length; need++) {
            e.make("store 0", "slinger 0 9", "slinger 2 9", "cloud 1 " + need);
            e.due(bits[need - 1], "parishes 0 1 0 9");
        }
        e.make("store 0", "slinger 0 0", "slinger 2 9", "cloud 22 4");
        // a does not reach it: b alone throws
        e.due(4, "parishes 0 1 0 7");
        e.due(2, "parishes 1 0 0 7");
    }

    static void parishesHereOrTurned() {
        Edge e = new Edge(40, "each throw (1) or not (0) a STONE of r RINGS at a CLOUD now (HERE: it is not HIT)");
        e.make("cellar 4 0", "stones 0 9 9", "slinger 0 9", "slinger 0 9", "cloud 1 9", "cloud 2 9");
        e.due(8, "parishes 0 1 0 9");
        e.make("hour");
        e.due(1, "parishes 0 1 0 9");
        e.due(8, "parishes 0 1 1 9");
        e.make("throwing 0 0 9 1");
        e.due(8, "parishes 0 1 1 9");
        e.make("throwing 0 0 9 1");
        e.due(6, "parishes 0 1 1 9");
        e.make("throwing 0 0 9 1");
        e.due(1, "sky 1 3");
        e.due(1, "parishes 0 1 1 9");
        e.make("throwing 0 0 9 1");
        e.due(1, "parishes 0 1 1 9");
    }

    static void parishesTooFar() {
        Edge e = new Edge(40, "PARISHES: two unlike SLINGERS a, b each throw");
        e.make("slinger 0 0", "slinger 0 1", "cloud 9 6", "cloud 10 6", "cloud 11 6", "cloud 12 6");
        e.due(8, "parishes 0 1 0 9");
        e.due(4, "parishes 0 1 1 9");
        e.due(2, "parishes 1 0 1 9");
        e.due(4, "parishes 0 1 2 9");
        e.due(1, "parishes 0 1 3 9");
    }

    static void parishesNumbers() {
        Edge e = new Edge(40, "PARISHES, as bits. BAD: alike a, b, too.");
        e.bad("parishes 0 1 0 1");
        e.make("slinger 0 0", "cloud 1 1");
        e.bad("parishes 0 1 0 1");
        e.bad("parishes 0 0 0 1");
        e.make("slinger 0 0");
        e.badAround("parishes ? 1 0 1", 0, 1);
        e.badAround("parishes 0 ? 0 1", 0, 1);
        e.badAround("parishes 0 1 ? 1", 0, 0);
        e.badAround("parishes 0 1 0 ?", 1, 9);
        e.bad("parishes 0 0 0 1");
        e.bad("parishes 1 1 0 1");
        e.due(1, "parishes 0 1 0 1");
        e.due(1, "parishes 1 0 0 9");
        e.make(4, "slinger 0 0");
        e.make(3, "cloud 1 1");
        e.badAround("parishes ? 0 3 1", 0, 5);
        e.badAround("parishes 0 ? 3 1", 0, 5);
        e.badAround("parishes 5 4 ? 1", 0, 3);
        for (int s = 0; s <= 5; s++) {
            e.bad("parishes " + s + " " + s + " 3 9");
        }
        e.due(1, "parishes 5 4 3 1");
    }

    private static void gusts(Edge e, String numbers, int above, int below) {
        e.due(1, "gusts " + numbers);
        e.due(above, "part 0");
        e.due(below, "part 1");
    }

    static void gustsNumbers() {
        Edge e = new Edge(41, "GUSTS are THE FRACTION: 1. BAD.");
        e.bad("gusts 0 0 1 0 0");
        e.make("slinger 0 9");
        e.bad("gusts 0 0 1 0 0");
        e.make("cloud 1 1");
        gusts(e, "0 0 9 9 0", 27, 1);
        e.make("hour", "undo");
        e.badAround("gusts ? 0 1 0 0", 0, 0);
        e.badAround("gusts 0 ? 1 0 0", 0, 0);
        e.badAround("gusts 0 0 ? 0 0", 1, 9);
        e.badAround("gusts 0 0 1 ? 0", 0, 9);
        e.badAround("gusts 0 0 1 0 ?", 0, 10);
        e.due(27, "part 0");
        e.make(5, "slinger 0 0");
        e.make(3, "cloud 9 1");
        e.badAround("gusts ? 3 1 0 0", 0, 5);
        e.badAround("gusts 5 ? 1 0 0", 0, 3);
        gusts(e, "5 3 9 1 0", 3, 1);
        gusts(e, "5 3 8 1 0", 0, 1);
    }

    static void gustsByOdds() {
        Edge e = new Edge(41, "GUSTS: by c of 10 (0 .. 10) THE WIND is 4 more (9 at most) at a THROW, apart:");
        // arm 5, 3 rings: 13 less the wind. At 9 far it is reached by wind 4, not by 5
        e.make("slinger 0 5", "cloud 9 1");
        gusts(e, "0 0 3 1 10", 1, 1);
        e.make("wind 1");
        gusts(e, "0 0 3 1 0", 1, 1);
        gusts(e, "0 0 3 1 1", 9, 10);
        gusts(e, "0 0 3 1 5", 1, 2);
        gusts(e, "0 0 3 1 9", 1, 10);
        gusts(e, "0 0 3 1 10", 0, 1);
        gusts(e, "0 0 3 9 9", 9, 10);
        gusts(e, "0 0 3 9 1", 81, 10);
        e.make("wind 4");
        gusts(e, "0 0 3 1 0", 1, 1);
        e.make("wind 5");
        gusts(e, "0 0 3 9 0", 0, 1);
    }

    static void gustsByWind9AtMost() {
        Edge e = new Edge(41, "THE WIND is 4 more (9 at most) at a THROW");
        // 13 less the wind: 5 far by wind 8, 4 far by wind 9
        e.make("slinger 0 5", "cloud 5 1", "cloud 4 1", "wind 4");
        gusts(e, "0 0 3 1 10", 1, 1);
        e.make("wind 5");
        gusts(e, "0 0 3 1 10", 0, 1);
        for (int wind = 5; wind <= 9; wind++) {
            e.make("wind " + wind);
            gusts(e, "0 1 3 1 10", 1, 1);
            gusts(e, "0 1 3 1 0", 1, 1);
            gusts(e, "0 0 3 1 0", wind <= 8 ? 1 : 0, 1);
        }
        e.due(9, "count 4");
    }

    static void gustsThrows() {
        Edge e = new Edge(41, "HITS of n (0 .. 9) THROWS of a SLINGER with r RINGS at a CLOUD (HERE: none), in the mean: THE FRACTION.");
        e.make("slinger 5 9", "slinger 4 0", "cloud 1 40", "cloud 5 1");
        gusts(e, "0 0 3 1 5", 6, 1);
        gusts(e, "0 0 3 9 5", 54, 1);
        gusts(e, "0 0 3 0 5", 0, 1);
        gusts(e, "0 0 4 9 5", 0, 1);
        gusts(e, "1 1 1 9 10", 9, 1);
        gusts(e, "1 1 9 8 10", 24, 1);
        e.make("hour");
        gusts(e, "0 0 3 9 5", 0, 1);
        gusts(e, "1 1 9 9 0", 27, 1);
        e.make("hour", "hour", "hour");
        gusts(e, "1 1 1 9 0", 9, 1);
        e.make("hour");
        gusts(e, "1 1 1 9 0", 0, 1);
    }

    /** The means are of the throws' own hits: a cloud that is turned, or has little room, lessens none. */
    static void gustsAtATurnedCloud() {
        Edge e = new Edge(41, "HITS of n (0 .. 9) THROWS of a SLINGER");
        e.make("cellar 4 0", "stones 0 3 9", "slinger 5 9", "cloud 1 1");
        e.make(7, "throwing 0 0 3 0");
        e.due(40, "sky 0 2");
        gusts(e, "0 0 3 9 0", 54, 1);
        gusts(e, "0 0 3 1 0", 6, 1);
        e.due(40, "sky 0 2");
    }

    static void summersNumbers() {
        Edge e = new Edge(42, "SUMMERS by a SEED (0 .. 999999), n (0 .. 60) WEEKS");
        e.badAround("summers ? 0", 0, 999999);
        e.badAround("summers 0 ?", 0, 60);
        e.due(0, "summers 0 0");
        // by seed 4 the door of cellar 0 is opened in weeks 18, 24, 27, 34, 35, 44, 47, 60
        e.make("cellar 3 0", "stones 0 8 1", "stones 0 7 2", "stones 0 1 4", "stones 0 9 8");
        e.badAround("summers ? 60", 0, 999999);
        e.badAround("summers 4 ?", 0, 60);
        e.due(15, "summers 4 0");
        e.due(15, "summers 4 17");
        e.due(11, "summers 4 18");
        e.due(11, "summers 4 46");
        e.due(9, "summers 4 47");
        e.due(9, "summers 4 59");
        e.due(8, "summers 4 60");
        // by seed 999994 in weeks 9, 14, 19, 25, 30, 35, 40, 54, 60
        e.due(15, "summers 999994 8");
        e.due(11, "summers 999994 9");
        e.due(8, "summers 999994 59");
        e.due(0, "summers 999994 60");
    }

    static void summersDoors() {
        Edge e = new Edge(42, "the DOOR of CELLAR X by 65536 (cut), by 5 left over, is opened (not there: none)");
        // by seed 999999, and cellar c has c + 1 peas of 1 ring, which its door costs
        int[] order = {3, 3, 3, 4, 2, 3, 0, 4, 0, 3, 1};
        for (int cellars = 1; cellars <= 5; cellars++) {
            e.anew();
            int[] peas = new int[5];
            for (int c = 0; c < cellars; c++) {
                e.make("cellar 3 0", "stones " + c + " 1 " + (c + 1));
                peas[c] = c + 1;
            }
            for (int n = 0; n <= order.length; n++) {
                int left = 0;
                for (int c = 0; c < cellars; c++) {
                    left += peas[c];
                }
                e.due(left, "summers 999999 " + n);
                if (n < order.length) {
                    peas[order[n]] = 0;
                }
            }
        }
        e.anew();
        e.due(0, "summers 999999 60");
        // wine's door costs 2, a well's none
        e.make("cellar 4 8", "cellar 3 0", "cellar 3 0", "cellar 5 9", "stones 3 3 1", "stones 3 4 1", "stones 0 1 5");
        e.due(6, "summers 999999 1");
        e.due(5, "summers 999999 2");
        e.due(5, "summers 999999 60");
    }

    static void summersAheadOfEachWeek() {
        Edge e = new Edge(42, "ahead of each WEEK X becomes X times 1103515245 and 12345, by 2147483648 what is left over;");
        // by seed 0 cellars 0, 3, 3, 2, 3, 2, 0; PLAIN with straw 9 melts in weeks 1, 3, 5
        e.make("cellar 0 9", "stones 0 1 1", "stones 0 2 2", "stones 0 3 4", "stones 0 4 8", "stones 0 5 16");
        int[] left = {31, 30, 28, 28, 24, 24, 16, 0};
        for (int n = 0; n <= 7; n++) {
            e.due(left[n], "summers 0 " + n);
        }
        // from week 1 on: 0, then week 1; week 2; week 3
        e.make("week 1");
        e.due(28, "summers 0 1");
        e.due(28, "summers 0 2");
        e.due(24, "summers 0 3");
        e.due(1, "count 3");
        e.due(31, "count 5");
        e.anew();
        // DEEP from week 1 on: weeks 1 and 2 melt, 3 does not, 4 and 5 do; by seed 1 cellar 0 has its first door in week 4
        e.make("cellar 1 0", "week 1");
        for (int r = 1; r <= 6; r++) {
            e.make("stones 0 " + r + " " + (1 << r - 1));
        }
        int[] deep = {63, 62, 60, 60, 48, 32};
        for (int n = 0; n <= 5; n++) {
            e.due(deep[n], "summers 1 " + n);
        }
    }

    static void summersBySeeds() {
        Edge e = new Edge(42, "SUMMERS by a SEED (0 .. 999999), n (0 .. 60) WEEKS: X is SEED at first;");
        for (int c = 0; c <= 4; c++) {
            e.make("cellar 3 0", "stones " + c + " 1 " + (1 << c));
        }
        // the cellar whose door is opened first, and second
        int[][] seeds = {{0, 0, 3}, {1, 3, 3}, {5, 0, 2}, {999999, 3, 3}};
        for (int[] seed : seeds) {
            e.due(31, "summers " + seed[0] + " 0");
            e.due(31 - (1 << seed[1]), "summers " + seed[0] + " 1");
            e.due(seed[1] == seed[2] ? 31 - (1 << seed[1]) : 31 - (1 << seed[1]) - (1 << seed[2]), "summers " + seed[0] + " 2");
        }
        e.bad("summers -1 1");
        e.bad("summers 1000000 1");
    }

    static void summersLeftInAll() {
        Edge e = new Edge(42, "how many STONES are left in all then.");
        e.due(0, "summers 7 60");
        e.make("cellar 4 9", "stones 0 9 99", "stones 0 1 99", "cellar 4 8", "stones 1 1 1", "cellar 3 0");
        e.due(199, "summers 7 0");
        e.due(199, "summers 7 60");
        e.make("cellar 5 0", "stones 3 9 99");
        e.due(298, "summers 7 1");
        e.due(199, "summers 7 5");
        e.due(298, "count 5");
    }

    static void summersRefused() {
        Edge e = new Edge(42, "SUMMERS. BAD.");
        e.make("cellar 0 0", "stones 0 9 9", "hour");
        e.badAround("summers ? 1", 0, 999999);
        e.badAround("summers 1 ?", 0, 60);
        e.bad("summers -1 61");
        e.due(9, "summers 0 1");
        e.due(9, "summers 999999 1");
        e.due(0, "summers 0 60");
    }

    static void theFraction() {
        Edge e = new Edge(43, "THE FRACTION is 0 by 1 at first; lowest terms, below above 0.");
        e.due(0, "part 0");
        e.due(1, "part 1");
        e.make("slinger 0 9", "slinger 4 9", "cloud 19 1", "cloud 30 1");
        // arm 9, 1 ring: 19 far, by no gust alone
        for (int n = 0; n <= 9; n++) {
            for (int c = 0; c <= 10; c++) {
                int above = n * (10 - c);
                int shared = 1;
                for (int d = 2; d <= 10; d++) {
                    shared = above % d == 0 && 10 % d == 0 ? d : shared;
                }
                e.make("gusts 0 0 1 " + n + " " + c);
                e.be("part(0)", e.answer("part 0"), above / shared);
                e.be("part(1)", e.answer("part 1"), 10 / shared);
            }
        }
        e.anew();
        e.make("slinger 4 9", "cloud 30 1");
        gusts(e, "0 0 9 7 3", 21, 1);
        gusts(e, "0 0 1 7 3", 0, 1);
    }

    static void partNumbers() {
        Edge e = new Edge(43, "THE FRACTION: above (0), below (1). BAD.");
        e.badAround("part ?", 0, 1);
        e.due(0, "part 0");
        e.due(1, "part 1");
        e.make("slinger 0 9", "cloud 19 1", "gusts 0 0 1 7 5");
        e.badAround("part ?", 0, 1);
        e.due(7, "part 0");
        e.due(2, "part 1");
        e.bad("gusts 0 0 1 10 5");
        e.due(7, "part 0");
    }

    public static void main(String[] args) throws Exception {
        Edge.runAll(WineEdgeTest.class);
    }
}
