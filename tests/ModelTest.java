import java.lang.reflect.Method;
import java.util.HashMap;
import java.util.Map;

/** Random runs of at most 512 calls: HailCellar and the literal Model must answer alike, and be alike behind each call. */
public final class ModelTest {
    /** How often a call comes, its name, and its numbers: from-to as told, c, s, k one of a cellar, a slinger, a cloud. */
    private static final String[] CALLS = {
        "1 store 0-9", "2 cellar 0-5 0-9", "40 stones c 1-9 1-99", "4 straw c 0-9", "3 slinger 0-5 0-9", "3 cloud 1-30 1-40",
        "1 clear", "1 week 1-60", "6 week 1-2", "5 door c", "50 throwing s c 1-9 k", "3 hour", "4 wind 0-9",
        "8 undo", "3 of c 0-3", "3 has c 1-9", "3 about s 0-1", "4 sky k 0-3", "4 melts c 0-999",
        "6 then c 0-60 0-9 0-4", "9 then c 0-4 0-2 0-4", "6 lasts c 1-9", "5 least c 1-9 0-60", "5 least c 1-9 0-9",
        "6 throwsOf s 1-9 0-1", "5 reach s k", "20 turn k s c 0-1", "2 meet 1-9 s", "1 meet 1-9 -1--1", "6 doors 1-9 0-1",
        "5 rings c 0-99 1-9 0-9", "5 cooled 0-3", "4 even c", "1 note c 0-9 0-99 0-4 0-4", "6 note", "1 flew s 1-9 0-9 0-60 0-12",
        "6 flew", "2 forget 0-2", "4 is c", "6 watch c", "4 who s",
        "6 ask s", "12 parishes s s k 1-9", "8 gusts s k 1-9 0-9 0-10", "6 summers 0-999999 0-60", "6 summers 0-999999 0-6",
        "4 part 0-1", "3 image 0-1", "3 from 0-1", "3 status 0-2", "4 count 0-11",
    };

    private static final int CALLS_MOST = 512, TYPED_MOST = 160;

    private static long x = 20261119;
    private static int callsMade = 0;
    private static final Map<String, Method> OURS = new HashMap<>();
    private static final Map<String, Method> THEIRS = new HashMap<>();

    private static int pick(int low, int high) {
        x = x * 6364136223846793005L + 1442695040888963407L;
        return low + (int) Math.floorMod(x >>> 33, (long) high - low + 1);
    }

    private static int number(int low, int high) {
        int way = pick(0, 99);
        if (way < 88) {
            return pick(low, high);
        }
        if (way < 96) {
            return pick(0, 1) == 0 ? low : high;
        }
        int[] wrong = {low - 1, high + 1, Integer.MIN_VALUE, Integer.MAX_VALUE, -1, -2};
        return wrong[pick(0, wrong.length - 1)];
    }

    private static int sumOfWeights() {
        int sum = 0;
        for (String call : CALLS) {
            sum += Integer.parseInt(call.split(" ")[0]);
        }
        return sum;
    }

    private static String[] randomCall(int weights) {
        int left = pick(0, weights - 1);
        for (String call : CALLS) {
            String[] words = call.split(" ");
            left -= Integer.parseInt(words[0]);
            if (left < 0) {
                return words;
            }
        }
        return CALLS[0].split(" ");
    }

    private static Object[] numbersFor(String[] words, Model theirs) {
        if (words.length == 2 && words[1].equals("note")) {
            return noteThatFits(theirs);
        }
        if (words.length == 2 && words[1].equals("flew")) {
            return throwThatFits(theirs);
        }
        Object[] numbers = new Object[words.length - 2];
        for (int i = 0; i < numbers.length; i++) {
            int of = "csk".indexOf(words[2 + i]);
            if (of >= 0) {
                numbers[i] = number(0, Math.max(0, theirs.count(of) - 1));
            } else {
                String[] fromTo = words[2 + i].split("(?<=[0-9])-");
                numbers[i] = number(Integer.parseInt(fromTo[0]), Integer.parseInt(fromTo[1]));
            }
        }
        return numbers;
    }

    private static Object[] noteThatFits(Model theirs) {
        int c = pick(0, Math.max(0, theirs.count(0) - 1));
        int kind = pick(0, 2) > 0 ? c % 6 : pick(0, 5);
        int straw = pick(0, 9);
        int w = pick(0, 99);
        return new Object[] {c, straw, w, Model.melt(kind, w, straw), Model.cost(kind)};
    }

    private static Object[] throwThatFits(Model theirs) {
        int s = pick(0, Math.max(0, theirs.count(1) - 1));
        int arm = theirs.count(1) == 0 ? 0 : theirs.about(s, 1);
        int kind = pick(0, 2) > 0 ? s % 6 : pick(0, 5);
        int r = pick(1, 9);
        int v = pick(0, 9);
        return new Object[] {s, r, v, Model.far(kind, arm, r, v), Model.hits(kind, r)};
    }

    private static void both(Due due, HailCellar ours, Model theirs, String run, String name, Object... numbers) throws Exception {
        long got = ((Number) OURS.get(name).invoke(ours, numbers)).longValue();
        long want = ((Number) THEIRS.get(name).invoke(theirs, numbers)).longValue();
        String call = run + ": " + name + java.util.Arrays.toString(numbers);
        due.be(call, got, want);
        due.be(call + ", then digest()", ours.digest(), theirs.digest());
        int what = callsMade / 3 % 3;
        due.be(call + ", then status(" + what + ")", ours.status(what), theirs.status(what));
        callsMade += 3;
    }

    private static void runEnds(Due due, HailCellar ours, Model theirs, String run) {
        for (int what = 0; what <= 2; what++) {
            due.be(run + ": status(" + what + ") at the end", ours.status(what), theirs.status(what));
        }
        callsMade += 3;
        due.hold(run + ": 512 calls at most, " + callsMade + " are made", callsMade <= CALLS_MOST);
        callsMade = 0;
    }

    private static String blanks(int least) {
        int n = pick(0, 9) == 0 ? pick(1, 2) : 0;
        return " ".repeat(Math.max(least, n));
    }

    private static String figures(int low, int high) {
        int n = pick(0, 60) == 0 ? pick(0, 120) : pick(low, high);
        return pick(0, 9) == 0 && n < 10 ? "0" + n : "" + n;
    }

    private static String item(String word, int... ranges) {
        StringBuilder all = new StringBuilder(blanks(0)).append(word);
        for (int i = 0; i + 1 < ranges.length; i += 2) {
            all.append(blanks(i == 0 ? 0 : 1)).append(figures(ranges[i], ranges[i + 1]));
        }
        return all.append(blanks(0)).append(';').toString();
    }

    private static String randomItem() {
        switch (pick(0, 12)) {
            case 0: case 1: case 2: case 3:
                int[] ranges = new int[4 + 2 * pick(0, pick(0, 10))];
                for (int i = 0; i < ranges.length; i += 2) {
                    ranges[i + 1] = i == 0 ? 5 : i == 2 ? 9 : pick(0, 2) == 0 ? 99 : 9;
                }
                return item("cellar", ranges);
            case 4: case 5: case 6: return item("slinger", 0, 5, 0, 9);
            case 7: case 8: case 9: return item("cloud", 1, 30, 1, 40);
            case 10: case 11: return item("weeks", 1, pick(0, 3) == 0 ? 99 : 2);
            default: return pick(0, 5) == 0 ? item("store", 0, 9) : item("cloud", 1, 30, 1, 40);
        }
    }

    private static String randomText() {
        StringBuilder all = new StringBuilder(pick(0, 30) == 0 ? "" : item("store", 0, 9));
        for (int n = pick(0, 14); n > 0; n--) {
            all.append(randomItem());
        }
        String odd = "; abcz09:/`{\t\0" + (char) 127 + "store";
        for (int n = pick(0, 2) == 0 ? pick(1, 2) : 0; n > 0 && all.length() > 0; n--) {
            int place = pick(0, all.length() - 1);
            char c = odd.charAt(pick(0, odd.length() - 1));
            switch (pick(0, 3)) {
                case 0: all.setCharAt(place, c); break;
                case 1: all.insert(place, c); break;
                case 2: all.deleteCharAt(place); break;
                default: all.setLength(place);
            }
        }
        return all.toString();
    }

    private static void randomRun(Due due, int run, int weights) throws Exception {
        HailCellar ours = new HailCellar();
        Model theirs = new Model();
        String name = "run " + run;
        both(due, ours, theirs, name, "store", pick(0, 9));
        for (int n = pick(0, 9) / 2 + pick(0, 1); n > 0; n--) {
            both(due, ours, theirs, name, "cellar", pick(0, 5), pick(0, 9));
        }
        for (int n = pick(0, 5) + pick(0, 2); n > 0; n--) {
            both(due, ours, theirs, name, "slinger", pick(0, 5), pick(0, 9));
        }
        for (int n = pick(0, 2) + pick(0, 2); n > 0; n--) {
            both(due, ours, theirs, name, "cloud", pick(1, 30), pick(1, 40));
        }
        for (int n = pick(0, 24); n > 0; n--) {
            both(due, ours, theirs, name, "stones", pick(0, 4), pick(1, 9), pick(1, pick(1, 99)));
        }
        for (int n = 0; n < 100; n++) {
            String[] words = randomCall(weights);
            both(due, ours, theirs, name, words[1], numbersFor(words, theirs));
        }
        runEnds(due, ours, theirs, name);
    }

    private static void randomTexts(Due due, int run) throws Exception {
        HailCellar ours = new HailCellar();
        Model theirs = new Model();
        for (int n = 0; n < 3; n++) {
            String text = randomText();
            for (int i = 0; i < text.length() && i < TYPED_MOST; i++) {
                due.be("type", ours.type(text.charAt(i)), theirs.type(text.charAt(i)));
                callsMade++;
            }
            both(due, ours, theirs, "text " + run + " '" + text + "'", "read");
            both(due, ours, theirs, "text " + run, pick(0, 3) == 0 ? "hour" : "clear");
            if (pick(0, 9) == 0) {
                both(due, ours, theirs, "text " + run, "undo");
            }
        }
        runEnds(due, ours, theirs, "text " + run);
    }

    public static void main(String[] args) throws Exception {
        for (Method m : HailCellar.class.getMethods()) {
            OURS.put(m.getName(), m);
        }
        for (Method m : Model.class.getMethods()) {
            THEIRS.put(m.getName(), m);
        }
        Due due = new Due();
        int runs = args.length > 0 ? Integer.parseInt(args[0]) : 300;
        int weights = sumOfWeights();
        for (int run = 0; run < runs; run++) {
            randomRun(due, run, weights);
        }
        for (int run = 0; run < 10 * runs; run++) {
            randomTexts(due, run);
        }
        due.end("ModelTest");
    }
}
