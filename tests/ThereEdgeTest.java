/** Promises 44 to 48: each sentence that names a bound, with calls at it and on both sides of it. */
public final class ThereEdgeTest {
    private static final String[] SOME_STORE = {"store 5", "cellar 1 2", "stones 0 5 6", "slinger 3 4", "cloud 7 8", "rings 0 1 2 2",
        "note 0 1 2 1 1", "flew 0 1 2 3 4", "hour", "wind 6", "week 2"};

    static void imageNumbers() {
        Edge e = new Edge(44, "An IMAGE is kept: 1. BAD.");
        e.badAround("image ?", 0, 1);
        e.no("from 0");
        e.no("from 1");
        e.due(1, "image 0");
        e.no("from 1");
        e.due(1, "from 0");
        e.make("cellar 0 0");
        e.due(1, "image 1");
        e.badAround("image ?", 0, 1);
        e.due(1, "from 0");
        e.due(0, "count 0");
        e.due(1, "from 1");
        e.due(1, "count 0");
    }

    static void imagesKeepAll() {
        Edge e = new Edge(44, "IMAGES 0, 1 keep all but them, THE TEXT, THE FRACTION and STATUS;");
        e.make(SOME_STORE);
        long first = e.digest();
        e.make("image 0", "store 0");
        long second = e.digest();
        e.make("image 1", "cellar 5 5", "stones 0 9 99", "slinger 0 0", "cloud 1 1", "note 0 0 0 0 0");
        for (int again = 0; again <= 1; again++) {
            e.due(1, "from 0");
            e.due(first, "digest");
            e.make("forget 0", "forget 1", "forget 2", "week 60", "straw 0 9", "slinger 5 9", "cloud 30 40", "stones 0 9 1");
            e.due(1, "from 1");
            e.due(second, "digest");
        }
        e.make("from 0", "image 1", "store 3", "from 1");
        e.due(first, "digest");
    }

    static void imagesDoNotKeep() {
        Edge e = new Edge(44, "keep all but them, THE TEXT, THE FRACTION and STATUS");
        e.make("slinger 0 9", "cloud 1 1", "gusts 0 0 1 1 0", "type 97", "image 0");
        e.make("cellar 3 0", "image 1", "gusts 0 0 9 9 0");
        e.text("store 4;");
        e.bad("door 9");
        e.no("undo");
        e.make(5, "hour");
        e.due(1, "from 0");
        e.due(27, "part 0");
        e.due(8, "count 11");
        e.due(1, "status 0");
        e.due(1, "status 1");
        e.due(0, "count 0");
        e.due(1, "from 1");
        e.due(1, "count 0");
        e.due(27, "part 0");
        e.due(1, "read");
        e.due(4, "count 4");
        e.due(1, "from 1");
        e.due(0, "count 4");
    }

    static void imagesKeepWhatMayBeUndone() {
        Edge e = new Edge(45, "what may be undone they keep; it goes on from one.");
        e.make("cellar 0 0", "stones 0 9 1", "cloud 30 1");
        long[] ahead = new long[9];
        for (int i = 1; i <= 8; i++) {
            ahead[i] = e.digest();
            e.make(i % 2 == 0 ? "door 0" : "hour");
        }
        e.make("image 0");
        e.due(8, "count 10");
        e.make("undo", "undo", "undo", "image 1", "wind 9", "straw 0 1");
        e.due(0, "count 10");
        e.due(1, "from 0");
        e.due(8, "count 10");
        for (int i = 8; i >= 1; i--) {
            e.due(0, "undo");
            e.due(ahead[i], "digest");
        }
        e.no("undo");
        e.due(1, "from 1");
        e.due(5, "count 10");
        e.due(ahead[6], "digest");
        e.due(0, "undo");
        e.due(ahead[5], "digest");
        e.make("hour", "hour", "hour", "hour", "hour");
        e.due(8, "count 10");
    }

    static void fromNumbers() {
        Edge e = new Edge(45, "It goes on from an IMAGE: 1. BAD; NO: none was kept.");
        e.badAround("from ?", 0, 1);
        e.no("from 0");
        e.no("from 1");
        e.make("hour", "image 1", "hour");
        e.no("from 0");
        e.badAround("from ?", 0, 1);
        e.due(2, "count 10");
        e.due(1, "from 1");
        e.due(1, "count 10");
        e.due(1, "from 1");
        e.make("store 0", "cellar 0 0");
        e.no("from 0");
        e.due(1, "count 0");
        e.make("image 0", "store 0");
        e.due(1, "from 0");
        e.due(1, "count 0");
    }

    static void statusNumbers() {
        Edge e = new Edge(46, "STATUS: BAD (0), NO (1), FULL (2). -1: another what (counts as BAD).");
        for (int what = 0; what <= 2; what++) {
            e.due(0, "status " + what);
        }
        e.badAround(-1, "status ?", 0, 2);
        e.due(4, "status 0");
        e.due(0, "status 1");
        e.due(0, "status 2");
        e.no("undo");
        e.due(1, "status 1");
        e.make(4, "cloud 1 1");
        e.full("cloud 1 1");
        e.full("cloud 1 1");
        e.due(4, "status 0");
        e.due(1, "status 1");
        e.due(2, "status 2");
    }

    static void eachRefusedCallCounts() {
        Edge e = new Edge(46, "STATUS: how many calls were refused as BAD, NO, FULL (each answer told so below is such a one).");
        String[] bad = {"store 10", "cellar 6 0", "stones 0 1 0", "straw 0 10", "slinger 6 0", "cloud 0 1", "type 128", "week 0", "door 1",
            "throwing 0 0 0 0", "wind 10", "of 0 4", "has 0 0", "about 0 2", "sky 0 4", "melts 0 1000", "then 0 0 0 5", "lasts 0 0",
            "least 0 0 0", "throwsOf 0 0 0", "reach 1 0", "turn 0 0 0 2", "doors 0 0", "rings 0 0 1 2", "cooled 0", "even 1",
            "note 0 0 0 5 0", "flew 0 1 0 61 0", "forget 3", "is 1", "watch 1", "who 1", "ask 1", "parishes 0 0 0 1", "gusts 0 0 1 10 0",
            "summers 0 61", "part 2", "image 2", "from 2", "count 12"};
        e.make("cellar 0 0", "slinger 0 0", "cloud 1 1");
        for (int n = 0; n < bad.length; n++) {
            e.due(n, "status 0");
            e.bad(bad[n]);
        }
        e.due(bad.length, "status 0");
        e.badAs(-10, "meet 0 -1");
        e.badAs(-1, "status 3");
        e.due(bad.length + 2, "status 0");
        String[] no = {"throwing 0 0 1 0", "undo", "from 0", "from 1"};
        for (int n = 0; n < no.length; n++) {
            e.due(n, "status 1");
            e.no(no[n]);
        }
        e.due(4, "status 1");
        e.due(0, "status 2");
    }

    static void eachFullCallCounts() {
        Edge e = new Edge(46, "STATUS: how many calls were refused as BAD, NO, FULL (each answer told so below is such a one).");
        e.make(5, "cellar 0 0");
        e.make(6, "slinger 0 0");
        e.make(4, "cloud 1 1");
        e.make(4, "rings 0 0 1 0");
        e.make(6, "note 0 0 0 0 0");
        e.make(6, "flew 0 1 0 0 0");
        e.make(150, "type 32");
        String[] full = {"cellar 0 0", "slinger 0 0", "cloud 1 1", "rings 0 0 1 0", "note 0 0 0 0 0", "flew 0 1 0 0 0", "type 32"};
        for (int n = 0; n < full.length; n++) {
            e.due(n, "status 2");
            e.full(full[n]);
        }
        e.due(7, "status 2");
        e.due(0, "status 0");
        e.due(0, "status 1");
        String[] bad = {"cellar 0 10", "slinger 0 10", "cloud 1 41", "rings 0 100 1 0", "note 0 0 0 0 5", "flew 0 1 0 0 13", "type -1"};
        for (String call : bad) {
            e.bad(call);
        }
        e.due(7, "status 0");
        e.due(7, "status 2");
    }

    static void noneIsNotRefused() {
        Edge e = new Edge(46, "(where others are told they count as these)");
        e.due(-1, "meet 1 5");
        e.due(-1, "doors 1 0");
        e.make("cellar 3 0", "stones 0 9 1", "slinger 0 0", "cloud 30 1");
        e.due(-1, "lasts 0 1");
        e.due(-1, "turn 0 0 0 0");
        e.due(-1, "turn 0 0 0 1");
        e.make("note 0 0 0 4 4", "flew 0 1 0 60 12");
        e.due(-1, "watch 0");
        e.due(-1, "ask 0");
        e.make("cellar 0 0");
        e.due(-1, "least 1 1 0");
        e.faults(0, ";");
        e.badAs(-10, "meet 10 -1");
        e.badAs(-10, "meet 1 1");
        e.badAs(-1, "status -1");
        e.due(3, "status 0");
    }

    static void countNumbers() {
        Edge e = new Edge(47, "How many: 0 CELLARS, 1 SLINGERS, 2 CLOUDS, 3 the WEEK, 4 THE WIND, 5 STONES in all, 6 CLOUDS TURNED,");
        e.badAround("count ?", 0, 11);
        e.make("store 9");
        for (int n = 1; n <= 6; n++) {
            if (n <= 5) {
                e.make("cellar 4 8", "stones " + (n - 1) + " 9 99");
                e.due(n, "count 0");
                e.due(99 * n, "count 5");
            }
            e.make("slinger 4 9");
            e.due(n, "count 1");
            if (n <= 4) {
                e.make("cloud 1 1");
                e.due(n, "count 2");
                e.due(0, "count 6");
            }
        }
        for (int k = 0; k <= 3; k++) {
            e.make("throwing 0 0 9 " + k);
            e.due(k + 1, "count 6");
        }
        e.due(9, "count 4");
        e.due(99 * 5 - 4, "count 5");
        e.make("week 60");
        e.due(60, "count 3");
        e.badAround("count ?", 0, 11);
    }

    static void countOfAllStones() {
        Edge e = new Edge(47, "5 STONES in all");
        for (int c = 0; c <= 4; c++) {
            e.make("cellar 3 0");
            for (int r = 1; r <= 9; r++) {
                e.make("stones " + c + " " + r + " 99");
            }
        }
        e.due(5 * 9 * 99, "count 5");
        e.due(5 * 9 * 99, "summers 0 0");
        e.due(5 * 9 * 99, "week 1");
        e.due(8 * 99, "door 4");
        e.due(5 * 9 * 99 - 99, "count 5");
    }

    static void countOfWhatIsTold() {
        Edge e = new Edge(47, "7 RINGS told, 8 NOTES, 9 THROWN, 10 that may be undone, 11 bytes of THE TEXT. BAD.");
        e.make("cellar 0 0", "slinger 0 0");
        int[] most = {4, 6, 6, 8, 150};
        String[] one = {"rings 0 0 1 0", "note 0 0 0 0 0", "flew 0 1 0 0 0", "hour", "type 0"};
        for (int i = 0; i < most.length; i++) {
            for (int n = 1; n <= most[i]; n++) {
                e.make(one[i]);
            }
            e.due(most[i], "count " + (7 + i));
        }
        e.full(one[0]);
        e.full(one[1]);
        e.full(one[2]);
        e.make(one[3]);
        e.full(one[4]);
        for (int i = 0; i < most.length; i++) {
            e.due(most[i], "count " + (7 + i));
        }
        e.bad("count 12");
        e.bad("count -1");
    }

    static void digestOfAll() {
        Edge e = new Edge(48, "of CELLARS KIND, STRAW, STONES of 1 to 9 RINGS; of SLINGERS KIND, ARM; of CLOUDS FAR, NEED, HITS; of RINGS told c, w, x, y;");
        e.make("store 2", "cellar 5 7", "stones 0 1 11", "stones 0 9 19", "cellar 4 0", "stones 1 4 3", "slinger 2 8", "slinger 0 3");
        e.make("cloud 30 40", "cloud 5 2", "rings 1 20 9 5", "rings 0 99 1 0", "throwing 0 1 4 1", "type 59");
        e.due(Due.mix(2, 2, 2, 0, 2, 32, 1, 2, 0, 0, 1, 1,
                5, 7, 11, 0, 0, 0, 0, 0, 0, 0, 19, 4, 0, 0, 0, 0, 2, 0, 0, 0, 0, 0, 2, 8, 0, 3, 30, 40, 0, 5, 2, 2,
                1, 20, 9, 5, 0, 99, 1, 0, 0, 1), "digest");
    }

    static void digestOfWhatIsTold() {
        Edge e = new Edge(48, "of NOTES c, s, w, x, cost; of THROWN s, r, v, x, h; THE FRACTION.");
        e.make("cellar 3 0", "slinger 0 9", "cloud 19 1", "note 0 1 2 3 4", "note 0 9 99 0 1", "flew 0 9 8 50 12", "flew 0 1 2 3 4");
        e.make("gusts 0 0 1 7 5");
        e.due(Due.mix(1, 1, 1, 0, 0, 0, 0, 0, 2, 2, 0, 0, 3, 0, 0, 0, 0, 0, 0, 0, 0, 0, 0, 0, 9, 19, 1, 0,
                0, 1, 2, 3, 4, 0, 9, 99, 0, 1, 0, 9, 8, 50, 12, 0, 1, 2, 3, 4, 7, 2), "digest");
    }

    static void digestOfTheFullest() {
        Edge e = new Edge(48, "h = 1471; then h = 31 h + v for each v: count(0) to count(11);");
        e.due(Due.mix(0, 0, 0, 0, 0, 0, 0, 0, 0, 0, 0, 0, 0, 1), "digest");
        long[] all = new long[12 + 55 + 12 + 12 + 16 + 30 + 30 + 2];
        int at = 12;
        for (int c = 0; c <= 4; c++) {
            e.make("cellar " + c + " " + (9 - c));
            all[at++] = c;
            all[at++] = 9 - c;
            for (int r = 1; r <= 9; r++) {
                e.make("stones " + c + " " + r + " " + (9 * c + r));
                all[at++] = 9 * c + r;
            }
        }
        for (int s = 0; s <= 5; s++) {
            e.make("slinger " + s + " " + (9 - s));
            all[at++] = s;
            all[at++] = 9 - s;
        }
        for (int k = 0; k <= 3; k++) {
            e.make("cloud " + (30 - k) + " " + (40 - k));
            all[at++] = 30 - k;
            all[at++] = 40 - k;
            at++;
        }
        at = told(e, all, at, 4, "rings", new int[] {0, 90, 5, 4});
        at = told(e, all, at, 6, "note", new int[] {0, 2, 80, 3, 2});
        at = told(e, all, at, 6, "flew", new int[] {0, 2, 3, 50, 9});
        all[at + 1] = 1;
        int[] counts = {5, 6, 4, 0, 0, 45 * 46 / 2, 0, 4, 6, 6, 0, 0};
        for (int what = 0; what <= 11; what++) {
            all[what] = counts[what];
        }
        e.due(Due.mix(all), "digest");
    }

    /** So many calls, the second number one more each time, put behind the numbers that are mixed; where the next one stands. */
    private static int told(Edge e, long[] all, int from, int times, String call, int[] numbers) {
        int at = from;
        for (int n = 0; n < times; n++) {
            StringBuilder words = new StringBuilder(call);
            for (int i = 0; i < numbers.length; i++) {
                int number = numbers[i] + (i == 1 ? n : 0);
                words.append(' ').append(number);
                all[at++] = number;
            }
            e.make(words.toString());
        }
        return at;
    }

    static void digestIsOfCountsToo() {
        Edge e = new Edge(48, "for each v: count(0) to count(11)");
        e.make("cloud 2 1", "type 9", "week 3", "wind 4");
        e.due(Due.mix(0, 0, 1, 3, 4, 0, 0, 0, 0, 0, 2, 1, 2, 1, 0, 0, 1), "digest");
        e.make("undo");
        e.due(Due.mix(0, 0, 1, 3, 0, 0, 0, 0, 0, 0, 1, 1, 2, 1, 0, 0, 1), "digest");
        e.bad("door 0");
        e.make("image 0");
        e.due(Due.mix(0, 0, 1, 3, 0, 0, 0, 0, 0, 0, 1, 1, 2, 1, 0, 0, 1), "digest");
    }

    static void constants() {
        Edge e = new Edge(46, "public static final int NONE = -1, BAD = -2, NO = -3, FULL = -4;");
        e.be("NONE", HailCellar.NONE, -1);
        e.be("BAD", HailCellar.BAD, -2);
        e.be("NO", HailCellar.NO, -3);
        e.be("FULL", HailCellar.FULL, -4);
    }

    static void firstOfBadNoFull() {
        Edge e = new Edge(45, "Refused, changing nothing but STATUS, the first of: BAD -2 a number is not as told; NO -3 as told;");
        e.bad("from 2");
        e.bad("from -1");
        e.no("from 0");
        e.due(2, "status 0");
        e.due(1, "status 1");
    }

    public static void main(String[] args) throws Exception {
        Edge.runAll(ThereEdgeTest.class);
    }
}
