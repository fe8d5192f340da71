/** Promises 11 to 20: each sentence that names a bound, with calls at it and on both sides of it. */
public final class WeeksEdgeTest {
    private static void goTo(Edge e, int week) {
        for (int left = week; left > 0; left -= 60) {
            e.make("week " + Math.min(60, left));
        }
        e.due(week, "count 3");
    }

    static void weeksGoBy() {
        Edge e = new Edge(11, "n WEEKS go by (1 .. 60;");
        e.make("cellar 3 0", "stones 0 9 4");
        e.badAround("week ?", 1, 60);
        e.due(0, "count 3");
        e.due(0, "count 10");
        e.due(4, "week 1");
        e.due(1, "count 3");
        e.due(4, "week 60");
        e.due(61, "count 3");
        e.due(4, "week 2");
        e.due(63, "count 3");
        e.due(4, "week 59");
        e.due(122, "count 3");
    }

    static void weeksTogetherAreOne() {
        Edge e = new Edge(11, "together one that may be undone, also if none goes by;");
        e.make("cellar 0 0", "stones 0 9 4");
        long before = e.digest();
        e.due(0, "week 60");
        e.due(1, "count 10");
        e.due(0, "undo");
        e.due(before, "digest");
        e.due(4, "week 1");
        e.due(1, "count 10");
        e.anew();
        goTo(e, 999);
        e.make("cellar 0 0");
        e.due(0, "count 10");
        e.due(0, "week 1");
        e.due(1, "count 10");
        e.due(0, "week 60");
        e.due(2, "count 10");
        e.due(999, "undo");
        e.due(999, "undo");
        e.no("undo");
    }

    static void noneGoesByAt999() {
        Edge e = new Edge(11, "at 999 none goes by");
        goTo(e, 998);
        e.make("cellar 0 0", "stones 0 9 1");
        e.due(1, "week 1");
        e.due(999, "count 3");
        e.due(1, "has 0 8");
        e.due(1, "week 1");
        e.due(999, "count 3");
        e.due(1, "has 0 8");
        e.due(999, "undo");
        e.due(998, "undo");
        e.due(1, "has 0 9");
        e.due(1, "week 2");
        e.due(999, "count 3");
        e.due(1, "has 0 8");
        e.due(998, "undo");
        e.due(1, "week 60");
        e.due(999, "count 3");
        e.due(1, "has 0 8");
    }

    static void lastWeekThatMelts() {
        Edge e = new Edge(11, "WEEKS have numbers, 0 at first (999 at most).");
        e.due(0, "count 3");
        goTo(e, 997);
        // 997 is odd: melts by any straw; 998 is even, and leaves 2 by 3; 999 never melts
        e.make("cellar 0 5", "cellar 1 0", "stones 0 9 1", "stones 1 9 1", "week 1");
        e.due(998, "count 3");
        e.due(1, "has 0 8");
        e.due(1, "has 1 8");
        e.make("week 1");
        e.due(999, "count 3");
        e.due(1, "has 0 8");
        e.due(1, "has 1 7");
        e.make("week 60");
        e.due(999, "count 3");
        e.due(1, "has 0 8");
        e.due(1, "has 1 7");
    }

    static void stonesLeftInAll() {
        Edge e = new Edge(11, "how many STONES are left in all. BAD.");
        e.due(0, "week 1");
        e.make("store 0", "cellar 0 0", "cellar 2 0", "cellar 3 0");
        e.due(0, "week 1");
        e.make("stones 0 1 3", "stones 0 2 4", "stones 1 2 5", "stones 1 3 6", "stones 2 1 7");
        e.due(4 + 6 + 7, "week 1");
        e.due(7, "week 1");
        e.due(7, "week 60");
        e.bad("week 0");
        e.due(7, "count 5");
    }

    static void aWeekMeltsByItsNumber() {
        Edge e = new Edge(11, "A WEEK goes by: all MELT as told by its number; the WEEK is one more.");
        e.make("cellar 0 5", "cellar 1 0", "stones 0 9 1", "stones 1 9 1");
        // PLAIN with straw 5 melts in weeks 1, 3, ..; DEEP with straw 0 in weeks 1, 2, 4, 5, ..
        int[] plain = {9, 8, 8, 7, 7, 6};
        int[] deep = {9, 8, 7, 7, 6, 5};
        for (int w = 0; w < 6; w++) {
            e.make("week 1");
            e.due(w + 1, "count 3");
            e.due(1, "has 0 " + plain[w]);
            e.due(1, "has 1 " + deep[w]);
        }
    }

    static void meltingByN() {
        Edge e = new Edge(12, "MELTING by n: each STONE has n RINGS less; those with none left are gone.");
        e.make("cellar 4 0", "cellar 0 0", "cellar 5 0");
        for (int c = 0; c <= 2; c++) {
            for (int r = 1; r <= 9; r++) {
                e.make("stones " + c + " " + r + " " + 10 * r);
            }
        }
        e.due(450, "door 0");
        e.due(440, "door 1");
        e.due(420, "door 2");
        for (int r = 1; r <= 9; r++) {
            e.due(10 * r, "has 0 " + r);
            e.due(r == 9 ? 0 : 10 * (r + 1), "has 1 " + r);
            e.due(r >= 8 ? 0 : 10 * (r + 2), "has 2 " + r);
        }
        e.make("door 2", "door 2", "door 2");
        e.due(90, "has 2 1");
        e.due(90, "of 2 3");
        e.due(0, "door 2");
        e.due(0, "door 2");
        e.make("door 1", "door 1", "door 1", "door 1", "door 1", "door 1", "door 1");
        e.due(90, "has 1 1");
        e.due(0, "door 1");
    }

    static void doorOfOneCellar() {
        Edge e = new Edge(12, "A DOOR of a CELLAR opened: its STONES MELT by what it costs.");
        int[] left = {1, 1, 1, 1, 2, 0};
        for (int kind = 0; kind <= 5; kind++) {
            e.anew();
            e.make("cellar 0 9", "cellar " + kind + " 9", "cellar 0 9");
            for (int c = 0; c <= 2; c++) {
                e.make("stones " + c + " 1 1", "stones " + c + " 2 1");
            }
            e.due(left[kind], "door 1");
            e.due(2, "of 0 3");
            e.due(2, "of 2 3");
            e.due(0, "count 3");
        }
    }

    static void doorIsOpened() {
        Edge e = new Edge(12, "A DOOR is opened: how many STONES are left there. BAD.");
        e.bad("door 0");
        e.make("cellar 0 0");
        e.badAround("door ?", 0, 0);
        e.due(0, "door 0");
        e.due(1, "count 10");
        e.make("stones 0 1 99", "stones 0 2 99");
        e.due(99, "door 0");
        e.due(1, "count 10");
        e.due(0, "door 0");
        e.due(0, "door 0");
        e.due(3, "count 10");
        e.make(4, "cellar 3 0");
        e.badAround("door ?", 0, 4);
        e.make("stones 4 9 3");
        e.due(3, "door 4");
        e.due(0, "door 3");
    }

    static void throwingNumbers() {
        Edge e = new Edge(13, "A THROW of a STONE of r RINGS of a CELLAR by a SLINGER at a CLOUD: HITS it made (0: too FAR). BAD;");
        e.bad("throwing 0 0 9 0");
        e.make("cellar 4 0", "stones 0 9 9", "stones 0 1 9");
        e.bad("throwing 0 0 9 0");
        e.make("slinger 0 9");
        e.bad("throwing 0 0 9 0");
        e.make("cloud 20 9");
        e.badAround("throwing ? 0 9 0", 0, 0);
        e.badAround("throwing 0 ? 9 0", 0, 0);
        e.badAround("throwing 0 0 ? 0", 1, 9);
        e.badAround("throwing 0 0 9 ?", 0, 0);
        e.due(0, "count 10");
        e.due(3, "throwing 0 0 9 0");
        e.due(0, "throwing 0 0 1 0");
        e.due(8 + 8, "count 5");
        e.make(5, "slinger 2 9");
        e.make(4, "cellar 4 0");
        e.make("cloud 1 1", "cloud 1 1", "cloud 1 1", "stones 4 9 1");
        e.badAround("throwing ? 4 9 3", 0, 5);
        e.badAround("throwing 5 ? 9 3", 0, 4);
        e.badAround("throwing 5 4 9 ?", 0, 3);
        e.due(3, "throwing 5 4 9 3");
        e.due(3, "sky 3 2");
    }

    static void tooFar() {
        Edge e = new Edge(13, "a CLOUD is HIT, if it is no FARTHER than one THROWS");
        // arm 3, 4 rings, wind 2: 8 far
        e.make("store 2", "cellar 4 0", "stones 0 4 9", "slinger 0 3", "cloud 7 9", "cloud 8 9", "cloud 9 9");
        e.due(2, "throwing 0 0 4 0");
        e.due(2, "throwing 0 0 4 1");
        e.due(0, "throwing 0 0 4 2");
        e.due(2, "sky 0 2");
        e.due(2, "sky 1 2");
        e.due(0, "sky 2 2");
        e.due(6, "has 0 4");
        e.due(3, "count 10");
        e.make("wind 1");
        e.due(2, "throwing 0 0 4 2");
        e.make("wind 2", "hour");
        e.due(2, "throwing 0 0 4 2");
        e.due(4, "sky 2 2");
    }

    static void tooFarCostsAllTheSame() {
        Edge e = new Edge(13, "HITS it made (0: too FAR)");
        e.make("store 9", "cellar 0 0", "stones 0 1 2", "stones 0 3 2", "slinger 0 0", "cloud 1 1");
        long before = e.digest();
        e.due(0, "throwing 0 0 3 0");
        e.due(1, "of 0 3");
        e.due(1, "has 0 2");
        e.due(0, "sky 0 2");
        e.due(0, "undo");
        e.due(before, "digest");
    }

    static void theStoneIsTakenFirst() {
        Edge e = new Edge(13, "A THROW: the STONE is taken first, then the DOOR costs what it costs;");
        e.make("cellar 0 0", "cellar 5 0", "cellar 4 0", "slinger 0 9", "cloud 10 40");
        e.make("stones 0 1 1", "stones 1 7 1", "stones 1 2 1", "stones 1 3 1", "stones 2 4 2", "stones 0 4 2", "stones 0 7 1");
        // a pea of 1 ring is thrown, not melted; the others melt by 1
        e.due(1, "throwing 0 0 1 0");
        e.due(2, "has 0 3");
        e.due(1, "has 0 6");
        e.due(3, "of 0 3");
        // an egg of 7 rings is thrown as an egg; the others melt by 2
        e.due(3, "throwing 0 1 7 0");
        e.due(1, "has 1 1");
        e.due(1, "of 1 3");
        // a door of a well costs none
        e.due(2, "throwing 0 2 4 0");
        e.due(1, "has 2 4");
        // the stones of 3 rings: one goes, the other has 2 left
        e.due(1, "throwing 0 0 3 0");
        e.due(1, "has 0 2");
        e.due(1, "has 0 5");
        e.due(2, "of 0 3");
    }

    static void hitsAre40AtMost() {
        Edge e = new Edge(13, "HITS are as many more (40 at most).");
        e.make("cellar 4 0", "stones 0 9 99", "stones 0 1 9", "slinger 0 9", "slinger 3 9", "slinger 5 9", "cloud 1 40", "cloud 1 1");
        e.make(9, "throwing 1 0 9 0");
        e.due(36, "sky 0 2");
        e.make("throwing 0 0 1 0");
        e.due(37, "sky 0 2");
        e.due(3, "throwing 0 0 9 0");
        e.due(40, "sky 0 2");
        e.due(0, "undo");
        e.make("throwing 0 0 1 0", "throwing 0 0 1 0");
        e.due(39, "sky 0 2");
        e.due(0, "sky 0 3");
        e.due(1, "throwing 0 0 1 0");
        e.due(40, "sky 0 2");
        e.due(1, "sky 0 3");
        e.due(0, "undo");
        // the HITS that the throw makes by its kind are answered, also where the cloud has room for fewer
        e.due(6, "throwing 2 0 1 0");
        e.due(40, "sky 0 2");
        e.due(1, "throwing 0 0 1 0");
        e.due(40, "sky 0 2");
        e.make(13, "throwing 1 0 9 1");
        e.due(40, "sky 1 2");
    }

    static void noneSuchOrHere() {
        Edge e = new Edge(13, "NO: there is none such, the CLOUD is HERE.");
        e.make("cellar 4 0", "slinger 0 9", "cloud 2 9", "cloud 1 9");
        e.no("throwing 0 0 9 0");
        e.make("stones 0 8 9");
        e.no("throwing 0 0 9 0");
        e.no("throwing 0 0 7 0");
        e.make("stones 0 9 1");
        e.due(3, "throwing 0 0 9 0");
        e.no("throwing 0 0 9 0");
        e.due(1, "hour");
        e.due(3, "throwing 0 0 8 0");
        e.no("throwing 0 0 8 1");
        e.no("throwing 0 0 9 1");
        e.due(0, "sky 1 2");
        e.due(8, "has 0 8");
        e.due(3, "count 10");
        e.due(2, "hour");
        e.no("throwing 0 0 8 0");
        e.bad("throwing 1 0 8 0");
        e.bad("throwing 0 0 9 2");
        e.bad("throwing 0 1 9 0");
        e.bad("throwing 0 0 10 0");
    }

    static void turned() {
        Edge e = new Edge(20, "TURNED: HITS as many as it NEEDS, or more.");
        e.make("cellar 4 0", "stones 0 1 9", "stones 0 9 9", "slinger 0 9", "cloud 1 3", "cloud 1 40", "cloud 1 1");
        e.due(0, "sky 0 3");
        e.make("throwing 0 0 1 0", "throwing 0 0 1 0");
        e.due(0, "sky 0 3");
        e.due(0, "count 6");
        e.make("throwing 0 0 1 0");
        e.due(1, "sky 0 3");
        e.due(1, "count 6");
        e.make("throwing 0 0 1 0");
        e.due(1, "sky 0 3");
        e.due(4, "sky 0 2");
        e.make("throwing 0 0 9 2");
        e.due(1, "sky 2 3");
        e.due(2, "count 6");
        e.due(0, "sky 1 3");
    }

    static void anHour() {
        Edge e = new Edge(14, "AN HOUR: each CLOUD that is not TURNED is 1 less FAR (0: it is HERE, stays so).");
        e.make("cellar 4 0", "stones 0 1 9", "slinger 0 9", "cloud 2 1", "cloud 2 2", "cloud 2 3", "cloud 30 1");
        e.make("throwing 0 0 1 0", "throwing 0 0 1 1");
        e.due(0, "hour");
        int[] far = {2, 1, 1, 29};
        for (int k = 0; k < 4; k++) {
            e.due(far[k], "sky " + k + " 0");
        }
        e.make("throwing 0 0 1 1");
        e.due(1, "hour");
        e.due(2, "sky 0 0");
        e.due(1, "sky 1 0");
        e.due(0, "sky 2 0");
        e.due(1, "hour");
        e.due(0, "sky 2 0");
        e.due(1, "sky 1 0");
        e.due(27, "sky 3 0");
        e.make(26, "hour");
        e.due(1, "sky 3 0");
        e.due(2, "hour");
        e.due(0, "sky 3 0");
        e.due(2, "hour");
        e.due(0, "sky 3 0");
        e.due(0, "count 3");
    }

    static void howManyAreHere() {
        Edge e = new Edge(14, "AN HOUR: how many CLOUDS are HERE then.");
        e.due(0, "hour");
        e.due(1, "count 10");
        e.make("cloud 1 1", "cloud 2 40", "cloud 3 1", "cloud 4 1");
        for (int hour = 1; hour <= 4; hour++) {
            e.due(hour, "hour");
        }
        e.due(4, "hour");
        e.due(5, "count 10");
        e.due(0, "count 6");
    }

    static void theWind() {
        Edge e = new Edge(15, "THE WIND: what it was. BAD.");
        e.badAround("wind ?", 0, 9);
        e.due(0, "count 10");
        e.due(0, "wind 9");
        e.due(9, "wind 0");
        e.due(0, "wind 1");
        e.due(1, "wind 8");
        e.due(8, "wind 8");
        e.due(8, "count 4");
        e.due(5, "count 10");
    }

    static void theWindAtFirst() {
        Edge e = new Edge(15, "THE WIND (0 .. 9; 0 at first).");
        e.due(0, "count 4");
        e.due(0, "wind 9");
        e.due(9, "count 4");
        e.bad("wind 10");
        e.bad("wind -1");
        e.due(9, "count 4");
        e.make("store 0");
        e.due(0, "wind 3");
    }

    static void noneMayBeUndone() {
        Edge e = new Edge(16, "UNDO: the WEEK then. NO: none may be.");
        e.no("undo");
        e.make("week 7", "week 60", "wind 3");
        e.due(67, "undo");
        e.due(7, "undo");
        e.due(0, "undo");
        e.no("undo");
        e.no("undo");
        e.due(0, "count 3");
    }

    static void eightMayBeUndone() {
        Edge e = new Edge(16, "(8 at most;");
        for (int n = 1; n <= 7; n++) {
            e.make("wind " + n);
            e.due(n, "count 10");
        }
        e.make("week 1");
        e.due(8, "count 10");
        e.make("week 2");
        e.due(8, "count 10");
        e.make("hour");
        e.due(8, "count 10");
        // wind 1 and wind 2 may not be undone any more
        e.due(3, "undo");
        e.due(1, "undo");
        e.due(0, "undo");
        for (int wind = 6; wind >= 2; wind--) {
            e.due(0, "undo");
            e.due(wind, "count 4");
        }
        e.no("undo");
        e.due(2, "count 4");
        e.anew();
        e.make(8, "wind 5");
        e.due(8, "count 10");
        for (int left = 7; left >= 0; left--) {
            e.make("undo");
            e.due(left, "count 10");
        }
        e.due(0, "count 4");
        e.no("undo");
    }

    static void manyComeAndGo() {
        Edge e = new Edge(16, "(8 at most;");
        e.make("cellar 0 0", "stones 0 9 9", "cloud 30 40");
        e.make(20, "hour");
        e.due(10, "sky 0 0");
        e.make("undo", "undo", "undo");
        e.due(13, "sky 0 0");
        e.make("door 0", "door 0", "door 0", "door 0");
        e.due(8, "count 10");
        e.make("undo", "undo", "undo", "undo");
        e.due(9, "has 0 9");
        e.due(4, "count 10");
        e.make("undo", "undo", "undo", "undo");
        e.due(17, "sky 0 0");
        e.no("undo");
    }

    static void asAhead() {
        Edge e = new Edge(16, "UNDO: STONES, the WEEK, FAR, HITS, THE WIND as ahead of the last WEEKS gone by, DOOR opened, THROW, HOUR, WIND told");
        e.make("store 3", "cellar 0 0", "cellar 1 4", "stones 0 9 2", "stones 1 1 5", "slinger 0 9", "cloud 20 2", "cloud 1 40");
        String[] moments = {"week 3", "door 0", "throwing 0 0 5 0", "hour", "wind 9", "week 60", "wind 8", "hour"};
        long[] ahead = new long[moments.length];
        int[] weeks = {0, 3, 3, 3, 3, 3, 63, 63};
        for (int i = 0; i < moments.length; i++) {
            ahead[i] = e.digest();
            e.make(moments[i]);
        }
        e.due(8, "count 10");
        for (int i = moments.length - 1; i >= 0; i--) {
            e.due(weeks[i], "undo");
            e.due(ahead[i], "digest");
        }
        e.no("undo");
    }

    /** What may be undone behind calls that come, and behind those that are refused. */
    private static void come(Edge e, String call, String... refused) {
        e.anew();
        e.make("cellar 0 4", "stones 0 9 1", "slinger 0 0", "cloud 9 9", "hour", "wind 2");
        for (String none : refused) {
            e.bad(none);
            e.due(2, "count 10");
        }
        e.make(call);
        e.due(0, "count 10");
        e.no("undo");
        e.due(8, "sky 0 0");
        e.due(2, "count 4");
        e.make("hour");
        e.due(1, "count 10");
        e.due(0, "undo");
        e.no("undo");
    }

    static void noneBehindWhatComes() {
        Edge e = new Edge(16, "behind a CELLAR, STONES, STRAW, a SLINGER, a CLOUD that come none may be)");
        come(e, "cellar 0 0", "cellar 6 0", "cellar 0 10");
        come(e, "stones 0 1 1", "stones 0 1 0", "stones 0 1 100", "stones 1 1 1");
        come(e, "straw 0 0", "straw 0 10", "straw 1 0");
        come(e, "slinger 0 0", "slinger 0 10", "slinger 6 0");
        come(e, "cloud 1 1", "cloud 0 1", "cloud 1 41");
    }

    /** They come, though nothing that can be seen is changed by them. */
    static void noneBehindWhatComesToNothing() {
        Edge e = new Edge(16, "behind a CELLAR, STONES, STRAW, a SLINGER, a CLOUD that come none may be)");
        come(e, "straw 0 4");
        e.anew();
        e.make("cellar 0 0", "stones 0 9 99", "hour");
        e.due(1, "count 10");
        e.due(99, "stones 0 9 1");
        e.due(0, "count 10");
        e.no("undo");
    }

    static void fullOnesDoNotCome() {
        Edge e = new Edge(16, "behind a CELLAR, STONES, STRAW, a SLINGER, a CLOUD that come none may be)");
        e.make(5, "cellar 0 0");
        e.make(6, "slinger 0 0");
        e.make(4, "cloud 9 9");
        e.make("hour", "hour");
        e.full("cellar 0 0");
        e.full("slinger 0 0");
        e.full("cloud 9 9");
        e.due(2, "count 10");
        e.due(0, "undo");
        e.due(8, "sky 3 0");
    }

    static void whatElseComesLeavesIt() {
        Edge e = new Edge(16, "UNDO: STONES, the WEEK, FAR, HITS, THE WIND as ahead");
        e.make("cellar 0 0", "stones 0 9 9", "slinger 0 9", "cloud 9 9", "hour");
        e.make("rings 0 1 5 4", "note 0 1 1 1 1", "flew 0 1 1 1 1", "gusts 0 0 9 1 5", "type 59", "image 0");
        e.due(1, "count 10");
        e.due(0, "undo");
        e.due(9, "sky 0 0");
        for (int what = 7; what <= 9; what++) {
            e.due(1, "count " + what);
        }
        e.due(1, "count 11");
        e.due(3, "part 0");
        e.make("hour", "forget 0", "forget 1", "forget 2", "clear");
        e.due(1, "count 10");
        e.make("undo");
        e.due(0, "count 7");
        e.due(0, "count 11");
    }

    static void ofACellar() {
        Edge e = new Edge(17, "Of a CELLAR: KIND (0), STRAW (1), what a DOOR costs (2), how many STONES (3). BAD.");
        e.bad("of 0 0");
        int[] costs = {1, 1, 1, 1, 0, 2};
        for (int first = 0; first <= 1; first++) {
            e.anew();
            for (int c = 0; c <= 4; c++) {
                e.make("cellar " + (first + c) + " " + 2 * c, "stones " + c + " 9 " + (c + 1));
            }
            e.badAround("of ? 0", 0, 4);
            e.badAround("of 4 ?", 0, 3);
            for (int c = 0; c <= 4; c++) {
                int[] due = {first + c, 2 * c, costs[first + c], c + 1};
                for (int what = 0; what <= 3; what++) {
                    e.due(due[what], "of " + c + " " + what);
                }
            }
        }
    }

    static void stonesOfRings() {
        Edge e = new Edge(18, "How many STONES of r RINGS a CELLAR has. BAD.");
        e.bad("has 0 1");
        e.make("cellar 3 0", "cellar 3 0");
        for (int r = 1; r <= 9; r++) {
            e.due(0, "has 1 " + r);
            e.make("stones 1 " + r + " " + 11 * r);
        }
        e.badAround("has ? 1", 0, 1);
        e.badAround("has 1 ?", 1, 9);
        for (int r = 1; r <= 9; r++) {
            e.due(11 * r, "has 1 " + r);
            e.due(0, "has 0 " + r);
        }
    }

    static void aboutASlinger() {
        Edge e = new Edge(19, "Of a SLINGER: KIND (0), ARM (1). BAD.");
        e.bad("about 0 0");
        for (int s = 0; s <= 5; s++) {
            e.make("slinger " + (5 - s) + " " + (9 - s));
            e.badAround("about ? 1", 0, s);
        }
        e.badAround("about 0 ?", 0, 1);
        for (int s = 0; s <= 5; s++) {
            e.due(5 - s, "about " + s + " 0");
            e.due(9 - s, "about " + s + " 1");
        }
    }

    static void skyOfACloud() {
        Edge e = new Edge(20, "Of a CLOUD: FAR (0), NEED (1), HITS (2), TURNED (3; 1, 0). BAD.");
        e.bad("sky 0 0");
        e.make("cellar 4 0", "stones 0 9 9", "slinger 0 9");
        for (int k = 0; k <= 3; k++) {
            e.make("cloud " + (k + 1) + " " + (k + 2), "throwing 0 0 9 " + k);
            e.badAround("sky ? 0", 0, k);
        }
        e.badAround("sky 0 ?", 0, 3);
        for (int k = 0; k <= 3; k++) {
            int[] due = {k + 1, k + 2, 3, k <= 1 ? 1 : 0};
            for (int what = 0; what <= 3; what++) {
                e.due(due[what], "sky " + k + " " + what);
            }
        }
        e.make(4, "hour");
        e.due(1, "sky 0 0");
        e.due(2, "sky 1 0");
        e.due(0, "sky 2 0");
        e.due(0, "sky 3 0");
    }

    static void badAheadOfNo() {
        Edge e = new Edge(13, "Refused, changing nothing but STATUS, the first of: BAD -2 a number is not as told; NO -3 as told;");
        e.make("cellar 0 0", "slinger 0 0", "cloud 1 1", "hour");
        // no such stone, and the cloud is here: NO, unless a number is not as told
        e.no("throwing 0 0 1 0");
        for (String bad : new String[] {"-1 0 1 0", "1 0 1 0", "0 -1 1 0", "0 1 1 0", "0 0 0 0", "0 0 10 0", "0 0 1 -1", "0 0 1 1"}) {
            e.bad("throwing " + bad);
        }
        e.due(1, "count 10");
    }

    public static void main(String[] args) throws Exception {
        Edge.runAll(WeeksEdgeTest.class);
    }
}
