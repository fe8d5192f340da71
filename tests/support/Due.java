/** Counts and prints the answers that are not the due ones; ends a test with exit code 1 if there was one. */
public final class Due {
    private int wrong = 0;
    private int looked = 0;

    /** Each call is named by its promise and what is looked at. */
    public void be(String call, long got, long want) {
        looked++;
        if (got != want) {
            wrong++;
            System.out.println(call + " answered " + got + ", due is " + want);
        }
    }

    public void hold(String what, boolean holds) {
        be(what, holds ? 1 : 0, 1);
    }

    public void end(String test) {
        System.out.println(test + ": " + looked + " answers, " + wrong + " not as due");
        if (wrong != 0) {
            System.exit(1);
        }
    }

    /** The digest of these numbers, as promise 48 tells it. */
    public static long mix(long... all) {
        long h = 1471;
        for (long v : all) {
            h = 31 * h + v;
        }
        return h;
    }

    /** Types a text byte by byte behind what there is. */
    public static void type(HailCellar x, String text) {
        for (int i = 0; i < text.length(); i++) {
            x.type(text.charAt(i));
        }
    }

    /** What read answers on a text alone. */
    public static int read(HailCellar x, String text) {
        x.clear();
        type(x, text);
        return x.read();
    }
}
