import java.lang.reflect.Method;
import java.lang.reflect.Modifier;
import java.util.ArrayList;
import java.util.Arrays;
import java.util.Comparator;
import java.util.HashMap;
import java.util.List;
import java.util.Map;
import java.util.Set;

/**
 * One sentence of the document that names a bound, and an object that is called at the bound and on both sides of it.
 * A call is written as a text: its name, then its numbers. A call that is refused, and one that only looks, is made on
 * a second object too, beside a third without it: all that can be seen of these must be alike, but for STATUS.
 */
public final class Edge {
    private static final Due DUE = new Due();
    private static final List<Edge> EDGES = new ArrayList<>();
    private static final Map<String, Method> FACE = face();
    private static final Set<String> LOOKS = Set.of("of", "has", "about", "sky", "melts", "then", "lasts", "least", "throwsOf",
            "reach", "turn", "meet", "doors", "cooled", "even", "is", "watch", "who", "ask", "parishes", "summers", "part",
            "status", "count", "digest");
    private static final int CALLS_MOST = 512;
    private static final int BAD = 0, NO = 1, FULL = 2, NOT_REFUSED = -1;

    private final String name;
    private final List<String> calls = new ArrayList<>();
    private final int[] refused = new int[3];
    private HailCellar x = new HailCellar();

    /** A test begins: it says its promise and quotes the sentence, word by word. */
    public Edge(int promise, String sentence) {
        name = "promise " + promise + ", \"" + sentence + "\"";
        DUE.hold("the document says: " + name, Doc.says(promise, sentence));
        EDGES.add(this);
    }

    /** Runs each test of a class: its static methods without numbers, but for main. */
    public static void runAll(Class<?> tests) throws Exception {
        Method[] all = tests.getDeclaredMethods();
        Arrays.sort(all, Comparator.comparing(Method::getName));
        for (Method test : all) {
            if (test.getParameterCount() == 0 && Modifier.isStatic(test.getModifiers()) && !test.isSynthetic()) {
                test.setAccessible(true);
                int before = EDGES.size();
                test.invoke(null);
                DUE.hold(test.getName() + " quotes a sentence", EDGES.size() > before);
            }
        }
        for (Edge edge : EDGES) {
            edge.statusIsAsDue();
        }
        DUE.end(tests.getSimpleName() + ", " + EDGES.size() + " sentences");
    }

    private static Map<String, Method> face() {
        Map<String, Method> face = new HashMap<>();
        for (Method m : HailCellar.class.getDeclaredMethods()) {
            if (Modifier.isPublic(m.getModifiers())) {
                face.put(m.getName(), m);
            }
        }
        return face;
    }

    /** What a call, written as a text, answers. */
    public static long answer(HailCellar x, String call) {
        String[] words = call.split(" ");
        Object[] numbers = new Object[words.length - 1];
        for (int i = 0; i < numbers.length; i++) {
            numbers[i] = Integer.parseInt(words[i + 1]);
        }
        try {
            return ((Number) FACE.get(words[0]).invoke(x, numbers)).longValue();
        } catch (ReflectiveOperationException e) {
            throw new IllegalStateException(call, e);
        }
    }

    /** Goes on with a new object, for the same sentence. */
    public void anew() {
        statusIsAsDue();
        x = new HailCellar();
        calls.clear();
        Arrays.fill(refused, 0);
    }

    /** Calls that lead up to the bound; none is refused. */
    public void make(String... all) {
        for (String call : all) {
            DUE.hold(name + ": " + call + " is not refused", called(call) >= 0);
        }
    }

    public void make(int times, String call) {
        for (int i = 0; i < times; i++) {
            make(call);
        }
    }

    /** The text is this one then. */
    public void text(String text) {
        make("clear");
        for (int i = 0; i < text.length(); i++) {
            make("type " + (int) text.charAt(i));
        }
    }

    /** An answer that is no refusal. */
    public void due(long want, String call) {
        if (LOOKS.contains(call.split(" ")[0])) {
            allStays(call, NOT_REFUSED);
        }
        be(call, called(call), want);
    }

    /** The text is read, with so many items. */
    public void reads(int items, String text) {
        text(text);
        due(items, "read");
    }

    /** The text has a fault at a place, and all stays, STATUS too. */
    public void faults(int place, String text) {
        text(text);
        allStays("read", NOT_REFUSED);
        be("read of '" + text + "'", called("read"), -10 - place);
    }

    public void bad(String call) {
        refusedAs(BAD, -2, call);
    }

    /** BAD, where another answer than -2 is told for it. */
    public void badAs(long want, String call) {
        refusedAs(BAD, want, call);
    }

    public void no(String call) {
        refusedAs(NO, -3, call);
    }

    public void full(String call) {
        refusedAs(FULL, -4, call);
    }

    /** The number at the ? counts from low to high: one below, one above, and the least and the greatest int are BAD. */
    public void badAround(String call, int low, int high) {
        badAround(-2, call, low, high);
    }

    public void badAround(long want, String call, int low, int high) {
        for (int number : new int[] {low - 1, high + 1, Integer.MIN_VALUE, Integer.MAX_VALUE}) {
            badAs(want, call.replace("?", "" + number));
        }
    }

    public void be(String what, long got, long want) {
        DUE.be(name + ": " + what, got, want);
    }

    /** What a call answers, with nothing due of it yet. */
    public long answer(String call) {
        return called(call);
    }

    public long digest() {
        return called("digest");
    }

    private long called(String call) {
        calls.add(call);
        return answer(x, call);
    }

    private void refusedAs(int kind, long want, String call) {
        allStays(call, kind);
        be(call, called(call), want);
        refused[kind]++;
    }

    private void statusIsAsDue() {
        for (int what = BAD; what <= FULL; what++) {
            be("status(" + what + ") at the end", x.status(what), refused[what]);
        }
    }

    private void allStays(String call, int kind) {
        HailCellar without = again();
        HailCellar with = again();
        answer(with, call);
        List<Long> want = seen(without);
        if (kind != NOT_REFUSED) {
            want.set(kind, want.get(kind) + 1);
        }
        List<Long> got = seen(with);
        DUE.hold("calls on one object: " + name, calls.size() + got.size() + 1 <= CALLS_MOST);
        DUE.hold(name + ": all stays behind " + call + ": " + got + ", due is " + want, got.equals(want));
    }

    private HailCellar again() {
        HailCellar other = new HailCellar();
        for (String call : calls) {
            answer(other, call);
        }
        return other;
    }

    /** All that can be seen of an object, one number a call; STATUS first. What is seen here is changed by it. */
    private static List<Long> seen(HailCellar x) {
        List<Long> all = new ArrayList<>();
        for (int what = BAD; what <= FULL; what++) {
            all.add((long) x.status(what));
        }
        addMoments(all, x);
        for (int image = 0; image <= 1; image++) {
            all.add((long) x.from(image));
            addMoments(all, x);
        }
        all.add((long) x.read());
        all.add(x.digest());
        return all;
    }

    private static void addMoments(List<Long> all, HailCellar x) {
        all.add(x.digest());
        for (int i = 0; i < 9; i++) {
            all.add((long) x.undo());
            all.add(x.digest());
        }
    }
}
