/** Promise 10: each sentence that names a bound of the text, with texts at it and on both sides of it. */
public final class ReadEdgeTest {
    /** A new object that has something of all that a fault must leave as it is. */
    private static void fill(Edge e) {
        e.anew();
        e.make("store 4", "cellar 1 3", "stones 0 5 7", "slinger 0 9", "cloud 20 9", "gusts 0 0 9 7 5", "rings 0 1 5 4",
                "note 0 1 1 1 1", "flew 0 1 1 1 1", "image 0", "week 1", "hour", "image 1", "wind 7");
    }

    private static void fault(Edge e, int place, String text) {
        fill(e);
        e.faults(place, text);
        e.due(-10 - place, "read");
        e.due(0, "status 0");
        e.due(3, "count 10");
    }

    static void howManyItems() {
        Edge e = new Edge(10, "THE STORE is read: how many ITEMS. -10 less the FAULT: all stays.");
        e.reads(1, "store 0;");
        e.reads(2, "store 0;weeks 1;");
        e.reads(18, "store0;" + "weeks1;".repeat(17));
        fault(e, 0, "tore 0;");
        fault(e, 8, "store 0;tore 0;");
        fault(e, 149, "store 0;" + " ".repeat(141) + "0");
    }

    static void textOf150Bytes() {
        Edge e = new Edge(10, "THE STORE is told by a TEXT (150 bytes at most)");
        String text = "store 3;" + " ".repeat(132) + "cloud 1 2;";
        e.reads(2, text);
        e.due(150, "count 11");
        e.full("type 59");
        e.due(2, "sky 0 1");
        e.anew();
        e.reads(2, text.replaceFirst(" {132}", " ".repeat(131)));
        e.due(149, "count 11");
        fault(e, 150, text.substring(0, 149) + "3");
        fault(e, 149, text.substring(0, 149));
        fault(e, 150, text.substring(0, 149) + " ");
    }

    static void itemsAreEnded() {
        Edge e = new Edge(10, "of ITEMS, each ended by ; :");
        e.reads(1, "store 0;");
        e.reads(1, "store 0 ;");
        fault(e, 7, "store 0");
        fault(e, 8, "store 0 ");
        fault(e, 8, "store 0;;");
        fault(e, 0, ";store 0;");
        fault(e, 8, "store 0 weeks 1;");
        fault(e, 15, "store 0;weeks 1");
        fault(e, 16, "store 0;weeks 1 cloud 1 1;");
        fault(e, 7, "store 0:");
    }

    static void storeOnceFirstOfAll() {
        Edge e = new Edge(10, "store WIND (once, first of all);");
        e.reads(1, "store 0;");
        e.due(0, "count 4");
        e.reads(1, "store 9;");
        e.due(9, "count 4");
        e.reads(1, "store 09;");
        e.due(9, "count 4");
        fault(e, 6, "store 10;");
        fault(e, 6, "store 99;");
        fault(e, 5, "store;");
        fault(e, 8, "store 0 0;");
        fault(e, 8, "store 0;store 0;");
        fault(e, 19, "store 0;cloud 1 1; store 0;");
        fault(e, 0, "cellar 0 0;store 0;");
        fault(e, 0, "weeks 1;store 0;");
    }

    static void cellarNumbers() {
        Edge e = new Edge(10, "cellar KIND STRAW and up to 9 numbers (0 .. 99: STONES of 1, 2, .. RINGS; none: 0);");
        e.reads(2, "store 0;cellar 0 0;");
        e.due(0, "of 0 3");
        e.reads(2, "store 0;cellar 5 9 1;");
        e.due(5, "of 0 0");
        e.due(9, "of 0 1");
        e.due(1, "has 0 1");
        e.due(1, "of 0 3");
        e.anew();
        e.reads(2, "store 0;cellar 3 0 0 98 99 0 0 0 0 7 8;");
        int[] stones = {0, 98, 99, 0, 0, 0, 0, 7, 8};
        for (int r = 1; r <= 9; r++) {
            e.due(stones[r - 1], "has 0 " + r);
        }
        e.reads(2, "store 0;cellar 3 0 0 98 99 0 0 0 0 7;");
        e.due(7, "has 0 8");
        e.due(0, "has 0 9");
        fault(e, 39, "store 0;cellar 3 0 0 98 99 0 0 0 0 7 8 0;");
        fault(e, 19, "store 0;cellar 3 0 100;");
        fault(e, 21, "store 0;cellar 3 0 0 100;");
        fault(e, 35, "store 0;cellar 3 0 1 1 1 1 1 1 1 1 100;");
        fault(e, 16, "store 0;cellar 0;");
        fault(e, 14, "store 0;cellar;");
    }

    static void kindsAreToldAsNumbers() {
        Edge e = new Edge(10, "(a KIND is told as its number)");
        for (int kind = 0; kind <= 5; kind++) {
            e.anew();
            e.reads(3, "store 0;cellar " + kind + " 0;slinger 0" + kind + " 0;");
            e.due(kind, "of 0 0");
            e.due(kind, "about 0 0");
        }
        fault(e, 15, "store 0;cellar 6 0;");
        fault(e, 16, "store 0;slinger 6 0;");
        fault(e, 15, "store 0;cellar deep 0;");
        fault(e, 16, "store 0;slinger twin 0;");
        fault(e, 15, "store 0;cellar plain 0;");
        fault(e, 15, "store 0;cellar 50 0;");
    }

    static void strawAndArm() {
        Edge e = new Edge(10, "slinger KIND ARM;");
        e.reads(5, "store 0;cellar 0 9;cellar 0 0;slinger 5 9;slinger 0 0;");
        e.due(9, "of 0 1");
        e.due(0, "of 1 1");
        e.due(9, "about 0 1");
        e.due(0, "about 1 1");
        fault(e, 17, "store 0;cellar 0 10;");
        fault(e, 18, "store 0;slinger 0 10;");
        fault(e, 17, "store 0;slinger 0;");
        fault(e, 15, "store 0;slinger;");
        fault(e, 20, "store 0;slinger 0 9 0;");
        fault(e, 17, "store 0;slinger 0");
    }

    static void cloudFarNeed() {
        Edge e = new Edge(10, "cloud FAR NEED;");
        e.reads(3, "store 0;cloud 1 40;cloud 30 1;");
        e.due(1, "sky 0 0");
        e.due(40, "sky 0 1");
        e.due(30, "sky 1 0");
        e.due(1, "sky 1 1");
        e.due(0, "sky 1 2");
        fault(e, 14, "store 0;cloud 0 1;");
        fault(e, 14, "store 0;cloud 31 1;");
        fault(e, 16, "store 0;cloud 1 0;");
        fault(e, 16, "store 0;cloud 1 41;");
        fault(e, 14, "store 0;cloud 00 1;");
        fault(e, 15, "store 0;cloud 1;");
        fault(e, 18, "store 0;cloud 1 1 1;");
    }

    static void weeksThatGoBy() {
        Edge e = new Edge(10, "weeks n (1 .. 99: so many go by, where it stands).");
        e.reads(2, "store 0;weeks 1;");
        e.due(1, "count 3");
        e.reads(2, "store 0;weeks 99;");
        e.due(99, "count 3");
        e.reads(3, "store 0;weeks 01;weeks 60;");
        e.due(61, "count 3");
        e.anew();
        e.reads(6, "store 0;cellar 0 0 0 3;weeks 1;cellar 0 0 0 4;weeks 1;cellar 0 0 0 5;");
        e.due(0, "of 0 3");
        e.due(4, "has 1 1");
        e.due(5, "has 2 2");
        e.due(0, "count 10");
        fault(e, 14, "store 0;weeks 0;");
        fault(e, 14, "store 0;weeks 100;");
        fault(e, 14, "store 0;weeks 00;");
        fault(e, 13, "store 0;weeks;");
        fault(e, 16, "store 0;weeks 1 1;");
    }

    static void weeksStopAt999() {
        Edge e = new Edge(10, "WEEKS have numbers, 0 at first (999 at most).");
        String to990 = "store0;" + "weeks99;".repeat(10);
        e.reads(12, to990 + "weeks8;");
        e.due(998, "count 3");
        e.anew();
        e.reads(12, to990 + "weeks9;");
        e.due(999, "count 3");
        e.anew();
        e.reads(12, to990 + "weeks10;");
        e.due(999, "count 3");
        e.anew();
        e.reads(13, to990 + "cellar0 0 0 0 0 1;weeks99;");
        e.due(999, "count 3");
        e.due(0, "of 0 3");
        e.anew();
        // weeks 998 alone goes by: 1 ring less; then none
        e.reads(15, to990 + "weeks8;cellar0 0 0 0 0 1;weeks9;weeks99;");
        e.due(999, "count 3");
        e.due(1, "has 0 3");
    }

    static void wordsOfLetters() {
        Edge e = new Edge(10, "TOKENS: words of letters a .. z");
        e.reads(1, "store 0;");
        fault(e, 0, "`store 0;");
        fault(e, 5, "store` 0;");
        fault(e, 5, "store{ 0;");
        fault(e, 0, "{store 0;");
        fault(e, 0, "storea 0;");
        fault(e, 0, "storez 0;");
        fault(e, 0, "astore 0;");
        fault(e, 0, "zstore 0;");
        fault(e, 0, "Store 0;");
        fault(e, 0, "storE 0;");
        fault(e, 5, "storeS 0;");
        fault(e, 0, "stor e 0;");
    }

    static void figuresOfNumbers() {
        Edge e = new Edge(10, "figures (1 or 2 are one number)");
        e.reads(2, "store 9;weeks 10;");
        e.due(9, "count 4");
        e.due(10, "count 3");
        e.reads(2, "store 00;weeks 09;");
        e.due(0, "count 4");
        e.due(9, "count 3");
        e.reads(2, "store 0;weeks 90;");
        e.due(90, "count 3");
        fault(e, 6, "store 000;");
        fault(e, 6, "store 001;");
        fault(e, 6, "store /;");
        fault(e, 6, "store :;");
        fault(e, 7, "store 0/;");
        fault(e, 7, "store 0:;");
        fault(e, 6, "store -1;");
        fault(e, 6, "store +1;");
        fault(e, 7, "store 1.0;");
    }

    static void blanks() {
        Edge e = new Edge(10, "blanks (32), any number, ahead of, between and behind TOKENS (needed only between two words, two numbers).");
        e.reads(3, "store0;cellar1 2 3;weeks1;");
        e.due(1, "of 0 0");
        e.due(2, "of 0 1");
        e.reads(3, " store 0 ; cellar 1 2 3 ; weeks 1 ; ");
        e.due(1, "of 0 0");
        e.anew();
        e.reads(3, "     store     0     ;     cellar     1     2     3     ;     weeks     1     ;     ");
        e.due(1, "of 0 0");
        e.due(2, "of 0 1");
        e.due(3, "has 0 1");
        fault(e, 0, "storecellar 0;");
        fault(e, 0, "storestore 0;");
        fault(e, 13, "store0;cellar12;");
        fault(e, 15, "store0;cellar1 23;");
        fault(e, 3, "   ");
        fault(e, 0, "" + (char) 31 + "store 0;");
        fault(e, 0, "!store 0;");
        fault(e, 5, "store\t0;");
        fault(e, 8, "store 0;\n");
    }

    static void wordThatIsNone() {
        Edge e = new Edge(10, "FAULT: the place of the first byte of the first TOKEN that can not stand there (a word that is none,");
        fault(e, 0, "a 0;");
        fault(e, 3, "   rain 0;");
        fault(e, 0, "xtore 0;");
        fault(e, 0, "storf 0;");
        fault(e, 8, "store 0;dellar 0 0;");
        fault(e, 8, "store 0;cellas 0 0;");
        fault(e, 8, "store 0;tlinger 0 0;");
        fault(e, 8, "store 0;slingeq 0 0;");
        fault(e, 8, "store 0;bloud 1 1;");
        fault(e, 8, "store 0;cloue 1 1;");
        fault(e, 8, "store 0;xeeks 1;");
        fault(e, 8, "store 0;weekt 1;");
        fault(e, 8, "store 0;stores 0;");
        fault(e, 8, "store 0;cella 0 0;");
        fault(e, 8, "store 0;cellars 0 0;");
        fault(e, 10, "store 0;  slinge 0 0;");
        fault(e, 8, "store 0;slingers 0 0;");
        fault(e, 8, "store 0;clou 1 1;");
        fault(e, 8, "store 0;clouds 1 1;");
        fault(e, 8, "store 0;week 1;");
        fault(e, 8, "store 0;weekss 1;");
        fault(e, 6, "store zero;");
        fault(e, 6, "store cellar 0 0;");
        fault(e, 19, "store 0;cellar 0 0 cellar 0 0;");
    }

    static void storeAgain() {
        Edge e = new Edge(10, "store again, anything ahead of it,");
        e.reads(1, "  store 1;");
        fault(e, 8, "store 1;store 1;");
        fault(e, 9, "store 1; store 1;");
        fault(e, 18, "store 1;cloud 1 1;store 1;");
        fault(e, 0, "cellar 0 0;");
        fault(e, 0, "slinger 0 0;");
        fault(e, 0, "cloud 1 1;");
        fault(e, 0, "weeks 1;");
        fault(e, 1, " ;store 1;");
        fault(e, 0, "1 store 1;");
        fault(e, 1, " 100 store 1;");
        fault(e, 0, "?store 1;");
    }

    static void sixthCellarAtItsWord() {
        Edge e = new Edge(10, "a 6th cellar, a 7th slinger, a 5th cloud at its word");
        String cellars = "store 0;" + "cellar 0 0;".repeat(4);
        e.reads(6, cellars + "cellar 5 9 1;");
        e.due(5, "count 0");
        e.due(1, "has 4 1");
        fault(e, 63, cellars + "cellar 0 0;cellar 0 0;");
        fault(e, 64, cellars + "cellar 0 0; cellar 6 0;");
        fault(e, 63, cellars + "cellar 0 0;cellar");
        fault(e, 59, cellars + "cellar 6 0;cellar 0 0;");
    }

    static void seventhSlingerAtItsWord() {
        Edge e = new Edge(10, "a 7th slinger");
        String slingers = "store 0;" + "slinger 0 0;".repeat(5);
        e.reads(7, slingers + "slinger 5 9;");
        e.due(6, "count 1");
        e.due(9, "about 5 1");
        fault(e, 80, slingers + "slinger 0 0;slinger 0 0;");
        fault(e, 82, slingers + "slinger 0 0;  slinger 6 0;");
        fault(e, 80, slingers + "slinger 0 0;slinger");
        fault(e, 76, slingers + "slinger 6 0;slinger 0 0;");
    }

    static void fifthCloudAtItsWord() {
        Edge e = new Edge(10, "a 5th cloud at its word");
        String clouds = "store 0;" + "cloud 1 1;".repeat(3);
        e.reads(5, clouds + "cloud 30 40;");
        e.due(4, "count 2");
        e.due(40, "sky 3 1");
        fault(e, 48, clouds + "cloud 1 1;cloud 1 1;");
        fault(e, 49, clouds + "cloud 1 1; cloud 0 1;");
        fault(e, 48, clouds + "cloud 1 1;cloud");
        fault(e, 44, clouds + "cloud 0 1;cloud 1 1;");
    }

    static void allOfThemInOneText() {
        Edge e = new Edge(10, "a 6th cellar, a 7th slinger, a 5th cloud at its word");
        String text = "store0;" + "cellar3 0;".repeat(5) + "slinger0 0;".repeat(6);
        String clouds = "cloud1 1;".repeat(2);
        e.reads(12, text);
        e.due(5, "count 0");
        e.due(6, "count 1");
        e.anew();
        e.reads(14, text + clouds);
        e.due(2, "count 2");
    }

    static void tenthNumber() {
        Edge e = new Edge(10, "a 10th number,");
        e.reads(2, "store 0;cellar 0 0 1 2 3 4 5 6 7 8 9;");
        e.due(45, "of 0 3");
        fault(e, 37, "store 0;cellar 0 0 1 2 3 4 5 6 7 8 9 0;");
        fault(e, 37, "store 0;cellar 0 0 1 2 3 4 5 6 7 8 9 99;");
        fault(e, 38, "store 0;cellar 0 0 1 2 3 4 5 6 7 8 9  100;");
        fault(e, 37, "store 0;cellar 0 0 1 2 3 4 5 6 7 8 9 weeks 1;");
        fault(e, 36, "store 0;cellar 0 0 1 2 3 4 5 6 7 8 9");
    }

    static void runOfThreeFigures() {
        Edge e = new Edge(10, "a run of three figures or more (at its first one),");
        e.reads(2, "store 0;weeks 99;");
        fault(e, 14, "store 0;weeks 099;");
        fault(e, 14, "store 0;weeks 100;");
        fault(e, 14, "store 0;weeks 0001;");
        fault(e, 14, "store 0;weeks 12345678901234567890;");
        fault(e, 6, "store 4294967296;");
        fault(e, 19, "store 0;cellar 0 0 001;");
        fault(e, 8, "store 0;123;");
        fault(e, 8, "store 0;12;");
    }

    static void numberNotAsTold() {
        Edge e = new Edge(10, "a number not as told,");
        e.reads(5, "store 9;cellar 5 9 99;slinger 5 9;cloud 30 40;weeks 99;");
        fault(e, 6, "store 10;");
        fault(e, 15, "store 9;cellar 6 9 99;");
        fault(e, 17, "store 9;cellar 5 10 99;");
        fault(e, 16, "store 9;slinger 6 9;");
        fault(e, 18, "store 9;slinger 5 10;");
        fault(e, 14, "store 9;cloud 31 40;");
        fault(e, 17, "store 9;cloud 30 41;");
        fault(e, 14, "store 9;cloud 0 40;");
        fault(e, 17, "store 9;cloud 30 0;");
        fault(e, 14, "store 9;weeks 0;");
        fault(e, 8, "store 9;9;");
    }

    static void byteThatBeginsNone() {
        Edge e = new Edge(10, "a byte that begins none, too);");
        for (int b = 0; b <= 127; b++) {
            boolean begins = b == ';' || b == ' ' || b >= '0' && b <= '9' || b >= 'a' && b <= 'z';
            if (!begins) {
                e.anew();
                e.faults(10, "store 0;  " + (char) b + "weeks 1;");
            }
        }
        fault(e, 5, "store" + (char) 0 + "0;");
        fault(e, 7, "store 0" + (char) 127 + ";");
        fault(e, 7, "store 0A;");
        fault(e, 0, "" + (char) 127);
    }

    static void endsTooEarly() {
        Edge e = new Edge(10, "the TEXT's length, if it ends too early (an empty one, too).");
        fault(e, 0, "");
        fault(e, 1, " ");
        fault(e, 5, "store");
        fault(e, 6, "store ");
        fault(e, 7, "store 1");
        fault(e, 9, "store 1  ");
        fault(e, 14, "store 1;cellar");
        fault(e, 16, "store 1;cellar 0");
        fault(e, 18, "store 1;cellar 0 0");
        fault(e, 21, "store 1;cellar 0 0 1 ");
        fault(e, 15, "store 1;slinger");
        fault(e, 19, "store 1;slinger 0 0");
        fault(e, 13, "store 1;cloud");
        fault(e, 15, "store 1;cloud 1");
        fault(e, 17, "store 1;cloud 1 1");
        fault(e, 13, "store 1;weeks");
        fault(e, 15, "store 1;weeks 1");
        e.anew();
        e.reads(1, "store 1;");
        e.reads(1, "store 1; ");
    }

    static void takesThePlace() {
        Edge e = new Edge(10, "A STORE that is read takes the place of all but IMAGES, THE TEXT, THE FRACTION, STATUS");
        fill(e);
        e.bad("door 1");
        e.no("throwing 0 0 9 0");
        e.reads(1, "store 2;");
        e.due(Due.mix(0, 0, 0, 0, 2, 0, 0, 0, 0, 0, 0, 8, 21, 2), "digest");
        e.due(1, "status 0");
        e.due(1, "status 1");
        e.due(1, "from 0");
        e.due(0, "count 3");
        e.due(7, "count 5");
        e.due(1, "from 1");
        e.due(1, "count 3");
        e.due(1, "read");
        e.due(8, "clear");
    }

    static void nothingToldNothingToUndo() {
        Edge e = new Edge(10, "(NOTES, THROWN, RINGS told none; nothing to undo)");
        fill(e);
        e.due(3, "count 10");
        e.reads(5, "store 2;cellar 1 3 9;slinger 0 9;cloud 5 5;weeks 1;");
        for (int what = 7; what <= 10; what++) {
            e.due(0, "count " + what);
        }
        e.no("undo");
        e.bad("cooled 0");
        e.due(1023, "even 0");
        e.due(63, "is 0");
        e.due(63, "who 0");
        e.due(1, "rings 0 1 5 4");
        e.due(1, "note 0 1 1 1 1");
        e.due(1, "flew 0 1 1 1 1");
    }

    public static void main(String[] args) throws Exception {
        Edge.runAll(ReadEdgeTest.class);
    }
}
