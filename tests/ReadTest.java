/** Promise 10: a store told by a text, and the place of its fault. */
public final class ReadTest {
    private static final Due DUE = new Due();
    private static final HailCellar X = new HailCellar();

    private static void reads(String text, int items) {
        DUE.be("read '" + text + "'", Due.read(X, text), items);
    }

    private static void faults(String text, int place) {
        HailCellar x = new HailCellar();
        x.cellar(1, 1);
        x.stones(0, 5, 7);
        x.week(1);
        long before = x.digest();
        DUE.be("read '" + text + "'", Due.read(x, text), -10 - place);
        x.clear();
        DUE.be("all stays behind '" + text + "'", x.digest(), before);
        DUE.be("it may be undone behind '" + text + "'", x.undo(), 0);
        DUE.be("status(0) behind '" + text + "'", x.status(0), 0);
        DUE.be("status(1) behind '" + text + "'", x.status(1), 0);
        DUE.be("status(2) behind '" + text + "'", x.status(2), 0);
    }

    private static void whole() {
        reads("store 7;", 1);
        DUE.be("the wind", X.count(4), 7);
        reads("  store07 ;cellar5 9 1 02 3;slinger 3 4 ; cloud 30 40;weeks  1;  ", 5);
        DUE.be("kind", X.of(0, 0), 5);
        DUE.be("straw", X.of(0, 1), 9);
        DUE.be("its stones a week on (wine melts by 1 in week 0 with straw 9)", X.has(0, 1), 2);
        DUE.be("its stones a week on", X.has(0, 2), 3);
        DUE.be("its stones a week on", X.has(0, 3), 0);
        DUE.be("slinger", X.about(0, 0) * 10 + X.about(0, 1), 34);
        DUE.be("cloud far", X.sky(0, 0), 30);
        DUE.be("cloud need", X.sky(0, 1), 40);
        DUE.be("cloud hits", X.sky(0, 2), 0);
        DUE.be("week", X.count(3), 1);
        reads("store 0;cellar 0 0 99 1 2 3 4 5 6 7 8;", 2);
        DUE.be("stones of 9 rings", X.has(0, 9), 8);
        DUE.be("stones of 1 ring", X.has(0, 1), 99);
        reads("store 0;cellar 0 0;", 2);
        DUE.be("none told", X.count(5), 0);
        reads("store 0;cellar 0 0 0 1;weeks 1;cellar 0 0 0 1;weeks 1;cellar 0 0 0 1;", 6);
        DUE.be("weeks go by where they stand: first", X.of(0, 3), 0);
        DUE.be("weeks go by where they stand: second", X.has(1, 1), 1);
        DUE.be("weeks go by where they stand: third", X.has(2, 2), 1);
        reads("store 0;cellar 0 0;cellar 0 0;cellar 0 0;cellar 0 0;cellar 0 0;", 6);
        reads("store 0;slinger 0 0;slinger 0 0;slinger 0 0;slinger 0 0;slinger 0 0;slinger 5 9;", 7);
        reads("store 0;cloud 1 1;cloud 1 1;cloud 1 1;cloud 30 40;", 5);
    }

    private static void weeksAtTheEnd() {
        StringBuilder text = new StringBuilder("store 0;");
        for (int i = 0; i < 12; i++) {
            text.append("weeks 99;");
        }
        reads(text.toString(), 13);
        DUE.be("999 at most", X.count(3), 999);
    }

    private static void takesThePlace() {
        HailCellar x = new HailCellar();
        x.cellar(0, 0);
        x.slinger(0, 9);
        x.cloud(1, 1);
        x.rings(0, 0, 1, 1);
        x.note(0, 0, 0, 0, 0);
        x.flew(0, 1, 0, 0, 0);
        x.gusts(0, 0, 1, 1, 10);
        x.image(0);
        x.wind(3);
        x.type(200);
        DUE.be("read", Due.read(x, "store 2;"), 1);
        int[] due = {0, 0, 0, 0, 2, 0, 0, 0, 0, 0, 0, 8};
        for (int what = 0; what <= 11; what++) {
            DUE.be("behind read: count(" + what + ")", x.count(what), due[what]);
        }
        DUE.be("the fraction stays", x.part(0), 1);
        DUE.be("status stays", x.status(0), 1);
        DUE.be("the text stays: read again", x.read(), 1);
        DUE.be("images stay", x.from(0), 1);
        DUE.be("as kept", x.count(0), 1);
    }

    private static void faultsByPlace() {
        faults("", 0);
        faults("   ", 3);
        faults("store", 5);
        faults("store ", 6);
        faults("store 0", 7);
        faults("store 0 ", 8);
        faults("store 0;cellar 0 0 1", 20);
        faults("store 0; cloud", 14);
        faults("store 0;cellar", 14);
        faults("store 0;slinger", 15);
        faults("store 0;cloud 1", 15);
        faults("store 0;weeks", 13);
        faults("store 0;weeks 1", 15);
        faults("store 0;weeks weeks 1;", 14);
        faults("store 0;slinger cloud 1 1;", 16);
        faults("store 0;cloud 1 weeks 1;", 16);
        faults("store store 0;", 6);
        faults("stor 0;", 0);
        faults("xtore 0;", 0);
        faults("storx 0;", 0);
        faults("storez0;", 0);
        faults("astore 0;", 0);
        faults("store 0;weekz 1;", 8);
        faults("store`0;", 5);
        faults("store{0;", 5);
        faults("store 0/;", 7);
        faults("store 0:;", 7);
        faults(" stores 0;", 1);
        faults("cellar 0 0;", 0);
        faults(";store 0;", 0);
        faults("0 store;", 0);
        faults("store 0;store 0;", 8);
        faults("store 0;;", 8);
        faults("store 0;5;", 8);
        faults("store 0; rain 1;", 9);
        faults("store 10;", 6);
        faults("store 100;", 6);
        faults("store 0000;", 6);
        faults("store 1 1;", 8);
        faults("store;", 5);
        faults("store a;", 6);
        faults("storeX0;", 5);
        faults("Store 0;", 0);
        faults("store\t0;", 5);
        faults("store 0,", 7);
        faults("store 0;cellar 6 0;", 15);
        faults("store 0;cellar 0 10;", 17);
        faults("store 0;cellar 0;", 16);
        faults("store 0;cellar 0 0 1 2 3 4 5 6 7 8 9 10;", 37);
        faults("store 0;cellar 0 0 1 2 3 4 5 6 7 8 9 100;", 37);
        faults("store 0;cellar 0 0 1 100;", 21);
        faults("store 0;cellar 0 cellar 0 0;", 17);
        faults("store 0;slinger 6 0;", 16);
        faults("store 0;slinger 0 10;", 18);
        faults("store 0;slinger 0 0 0;", 20);
        faults("store 0;cloud 0 1;", 14);
        faults("store 0;cloud 31 1;", 14);
        faults("store 0;cloud 1 0;", 16);
        faults("store 0;cloud 1 41;", 16);
        faults("store 0;weeks 0;", 14);
        faults("store 0;weeks 1 1;", 16);
        faults("store 0;weeks 100;", 14);
        faults("store 0;cellar 0 0;cellar 0 0;cellar 0 0;cellar 0 0;cellar 0 0; cellar 6 0;", 64);
        faults("store 0;cloud 1 1;cloud 1 1;cloud 1 1;cloud 1 1;cloud 1 1;", 48);
        faults("store 0;slinger 0 0;slinger 0 0;slinger 0 0;slinger 0 0;slinger 0 0;slinger 0 0;slinger 0 0;", 80);
    }

    public static void main(String[] args) {
        whole();
        weeksAtTheEnd();
        takesThePlace();
        faultsByPlace();
        DUE.end("ReadTest");
    }
}
