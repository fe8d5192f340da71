/** Promises 44 to 48: images, status, count, digest. */
public final class ThereTest {
    private static final Due DUE = new Due();

    private static void images() {
        HailCellar x = new HailCellar();
        DUE.be("image(-1)", x.image(-1), -2);
        DUE.be("image(2)", x.image(2), -2);
        DUE.be("from(0), none kept", x.from(0), -3);
        DUE.be("from(2)", x.from(2), -2);
        DUE.be("from(-1)", x.from(-1), -2);
        x.store(5);
        x.cellar(1, 2);
        x.stones(0, 5, 6);
        x.slinger(3, 4);
        x.cloud(7, 8);
        x.rings(0, 1, 2, 2);
        x.note(0, 1, 2, 1, 1);
        x.flew(0, 1, 2, 3, 4);
        x.hour();
        x.week(2);
        long first = x.digest();
        DUE.be("image(0)", x.image(0), 1);
        x.undo();
        long second = x.digest();
        DUE.be("image(1)", x.image(1), 1);
        x.store(0);
        x.cellar(4, 4);
        DUE.be("from(0)", x.from(0), 1);
        DUE.be("as kept", x.digest(), first);
        DUE.be("what may be undone is kept", x.count(10), 2);
        DUE.be("undo", x.undo(), 0);
        DUE.be("as the second", x.digest(), second);
        x.undo();
        x.forget(0);
        DUE.be("from(0) once more", x.from(0), 1);
        DUE.be("an image stays as kept", x.digest(), first);
        DUE.be("from(1)", x.from(1), 1);
        DUE.be("as the second", x.digest(), second);
        x.wind(1);
        long third = x.digest();
        DUE.be("image(0) anew", x.image(0), 1);
        x.store(0);
        x.from(0);
        DUE.be("as kept anew", x.digest(), third);
    }

    private static void imagesLeaveTheRest() {
        HailCellar x = new HailCellar();
        x.slinger(0, 9);
        x.cloud(1, 1);
        x.type('a');
        x.image(0);
        x.type('b');
        x.gusts(0, 0, 1, 3, 5);
        x.door(9);
        DUE.be("from(0)", x.from(0), 1);
        DUE.be("the text stays", x.count(11), 2);
        DUE.be("the fraction stays", 10 * x.part(0) + x.part(1), 31);
        DUE.be("status stays", x.status(0), 1);
        HailCellar y = new HailCellar();
        DUE.be("images are an object's own", y.from(0), -3);
    }

    private static void status() {
        HailCellar x = new HailCellar();
        DUE.be("status(3)", x.status(3), -1);
        DUE.be("status(-1)", x.status(-1), -1);
        DUE.be("they count as BAD", x.status(0), 2);
        x.undo();
        x.from(1);
        DUE.be("NO", x.status(1), 2);
        for (int i = 0; i < 7; i++) {
            x.cloud(1, 1);
        }
        DUE.be("FULL", x.status(2), 3);
        x.meet(0, 0);
        x.meet(1, 5);
        DUE.be("meet counts as BAD", x.status(0), 4);
        x.cellar(0, 0);
        x.lasts(0, 1);
        x.least(0, 1, 1);
        x.doors(1, 1);
        x.read();
        x.part(5);
        DUE.be("NONE and a fault do not count", x.status(0), 5);
        DUE.be("NO", x.status(1), 2);
        DUE.be("FULL", x.status(2), 3);
    }

    private static void count() {
        HailCellar x = new HailCellar();
        x.store(6);
        x.cellar(0, 0);
        x.cellar(0, 0);
        x.stones(0, 9, 4);
        x.stones(1, 8, 3);
        x.slinger(0, 0);
        x.slinger(0, 0);
        x.slinger(0, 9);
        x.cloud(9, 1);
        x.cloud(9, 1);
        x.cloud(9, 1);
        x.cloud(9, 1);
        x.throwing(2, 0, 9, 1);
        x.week(3);
        x.rings(0, 0, 1, 1);
        for (int i = 0; i < 5; i++) {
            x.note(0, 0, 0, 0, 0);
            x.flew(0, 1, 0, 0, 0);
        }
        x.flew(0, 1, 0, 0, 0);
        x.type('x');
        x.type('y');
        x.type('z');
        int[] due = {2, 3, 4, 3, 6, 6, 1, 1, 5, 6, 2, 3};
        for (int what = 0; what <= 11; what++) {
            DUE.be("count(" + what + ")", x.count(what), due[what]);
        }
        DUE.be("count(12)", x.count(12), -2);
        DUE.be("count(-1)", x.count(-1), -2);
    }

    private static void digest() {
        HailCellar x = new HailCellar();
        DUE.be("of a new object", x.digest(), Due.mix(0, 0, 0, 0, 0, 0, 0, 0, 0, 0, 0, 0, 0, 1));
        x.store(2);
        x.cellar(5, 7);
        x.stones(0, 1, 11);
        x.stones(0, 9, 19);
        x.cellar(4, 0);
        x.stones(1, 4, 3);
        x.slinger(2, 8);
        x.slinger(0, 3);
        x.cloud(30, 40);
        x.cloud(5, 2);
        x.rings(1, 20, 9, 5);
        x.note(0, 1, 2, 3, 4);
        x.note(1, 5, 6, 0, 1);
        x.flew(1, 9, 8, 50, 12);
        x.throwing(0, 1, 4, 1);
        x.gusts(0, 1, 9, 1, 0);
        x.gusts(1, 1, 1, 1, 1);
        x.type(59);
        DUE.be("of all", x.digest(), Due.mix(2, 2, 2, 0, 2, 32, 1, 1, 2, 1, 1, 1,
                5, 7, 11, 0, 0, 0, 0, 0, 0, 0, 19, 4, 0, 0, 0, 0, 2, 0, 0, 0, 0, 0,
                2, 8, 0, 3, 30, 40, 0, 5, 2, 2, 1, 20, 9, 5, 0, 1, 2, 3, 4, 1, 5, 6, 0, 1, 1, 9, 8, 50, 12, 9, 10));
        long before = x.digest();
        x.cellar(9, 9);
        DUE.be("status is not in it", x.digest(), before);
    }

    private static void constants() {
        DUE.be("NONE", HailCellar.NONE, -1);
        DUE.be("BAD", HailCellar.BAD, -2);
        DUE.be("NO", HailCellar.NO, -3);
        DUE.be("FULL", HailCellar.FULL, -4);
    }

    public static void main(String[] args) {
        images();
        imagesLeaveTheRest();
        status();
        count();
        digest();
        constants();
        DUE.end("ThereTest");
    }
}
