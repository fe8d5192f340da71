import java.util.ArrayList;
import java.util.Arrays;
import java.util.HashMap;
import java.util.List;
import java.util.Map;
import java.math.BigInteger;

/**
 * The document once more, in the slowest and most literal form: every stone is an object of its own, every way is
 * tried, every hour goes by. It shares nothing with HailCellar.
 */
public final class Model {
    private static final int NONE = -1, BAD = -2, NO = -3, FULL = -4;

    private static final class Cellar {
        int kind, straw;
        List<Integer> stones = new ArrayList<>();

        Cellar copy() {
            Cellar other = new Cellar();
            other.kind = kind;
            other.straw = straw;
            other.stones = new ArrayList<>(stones);
            return other;
        }
    }

    private static final class Cloud {
        int far, need, hits;

        Cloud copy() {
            Cloud other = new Cloud();
            other.far = far;
            other.need = need;
            other.hits = hits;
            return other;
        }

        boolean turned() {
            return hits >= need;
        }

        void hourGoesBy() {
            if (!turned() && far > 0) {
                far--;
            }
        }
    }

    private static final class State {
        int week, wind;
        List<Cellar> cellars = new ArrayList<>();
        List<int[]> slingers = new ArrayList<>();
        List<Cloud> clouds = new ArrayList<>();
        List<int[]> rings = new ArrayList<>(), notes = new ArrayList<>(), thrown = new ArrayList<>();
        List<State> past = new ArrayList<>();

        State copy() {
            State other = new State();
            other.week = week;
            other.wind = wind;
            for (Cellar c : cellars) {
                other.cellars.add(c.copy());
            }
            other.slingers = new ArrayList<>(slingers);
            for (Cloud k : clouds) {
                other.clouds.add(k.copy());
            }
            other.rings = new ArrayList<>(rings);
            other.notes = new ArrayList<>(notes);
            other.thrown = new ArrayList<>(thrown);
            other.past = new ArrayList<>(past);
            return other;
        }
    }

    private State now = new State();
    private final State[] images = new State[2];
    private String text = "";
    private long above = 0, below = 1;
    private final int[] refused = new int[3];

    // ---- the kinds, each by the kind it is under

    static int melt(int kind, int w, int s) {
        switch (kind) {
            case 0: return s >= 5 && w % 2 == 0 ? 0 : 1;
            case 1: return w % 3 == 0 ? 0 : melt(0, w, s);
            case 2: return melt(0, w, s) + 1;
            case 3: return 0;
            case 4: return s >= 8 ? 0 : melt(1, w, s);
            default: return melt(2, w, s);
        }
    }

    static int cost(int kind) {
        switch (kind) {
            case 0: return 1;
            case 1: return cost(0);
            case 2: return cost(0);
            case 3: return cost(0);
            case 4: return 0;
            default: return 2 * cost(2);
        }
    }

    private static int size(int r) {
        return r <= 3 ? 1 : r <= 6 ? 2 : 3;
    }

    static int far(int kind, int a, int r, int v) {
        switch (kind) {
            case 0: return Math.max(0, 2 * a + r - v);
            case 1: return r > 3 ? 0 : far(0, a, r, v);
            case 2: return far(0, a, r, v) + 4;
            case 3: return Math.max(0, far(0, a, r, v) - v);
            case 4: return far(2, a, r, 0);
            default: return far(1, a, r, v);
        }
    }

    static int hits(int kind, int r) {
        switch (kind) {
            case 0: return size(r);
            case 1: return hits(0, r) + 2;
            case 2: return hits(0, r);
            case 3: return r >= 7 ? hits(0, r) + 1 : hits(0, r);
            case 4: return hits(2, r);
            default: return 2 * hits(1, r);
        }
    }

    private static void meltStones(Cellar c, int n) {
        List<Integer> left = new ArrayList<>();
        for (int r : c.stones) {
            if (r - n > 0) {
                left.add(r - n);
            }
        }
        c.stones = left;
    }

    // ---- small things

    private int bad() {
        refused[0]++;
        return BAD;
    }

    private int no() {
        refused[1]++;
        return NO;
    }

    private int full() {
        refused[2]++;
        return FULL;
    }

    private static boolean out(int v, int low, int high) {
        return v < low || v > high;
    }

    private boolean noCellar(int c) {
        return out(c, 0, now.cellars.size() - 1);
    }

    private boolean noSlinger(int s) {
        return out(s, 0, now.slingers.size() - 1);
    }

    private boolean noCloud(int k) {
        return out(k, 0, now.clouds.size() - 1);
    }

    private static int howMany(Cellar c, int low, int high) {
        int sum = 0;
        for (int r : c.stones) {
            if (r >= low && r <= high) {
                sum++;
            }
        }
        return sum;
    }

    private static int inAll(State s) {
        int sum = 0;
        for (Cellar c : s.cellars) {
            sum += c.stones.size();
        }
        return sum;
    }

    private void keepForUndo() {
        State moment = now.copy();
        moment.past = new ArrayList<>();
        now.past.add(moment);
        if (now.past.size() > 8) {
            now.past.remove(0);
        }
    }

    private int farOf(int s, int r, int v) {
        int[] slinger = now.slingers.get(s);
        return far(slinger[0], slinger[1], r, v);
    }

    private int hitsOf(int s, int r) {
        return hits(now.slingers.get(s)[0], r);
    }

    // ---- a store

    public int store(int wind) {
        if (out(wind, 0, 9)) {
            return bad();
        }
        int before = now.cellars.size();
        now = new State();
        now.wind = wind;
        return before;
    }

    public int cellar(int kind, int straw) {
        if (out(kind, 0, 5) || out(straw, 0, 9)) {
            return bad();
        }
        if (now.cellars.size() == 5) {
            return full();
        }
        Cellar c = new Cellar();
        c.kind = kind;
        c.straw = straw;
        now.cellars.add(c);
        now.past.clear();
        return now.cellars.size() - 1;
    }

    public int stones(int c, int r, int n) {
        if (noCellar(c) || out(r, 1, 9) || out(n, 1, 99)) {
            return bad();
        }
        Cellar in = now.cellars.get(c);
        for (int i = 0; i < n && howMany(in, r, r) < 99; i++) {
            in.stones.add(r);
        }
        now.past.clear();
        return howMany(in, r, r);
    }

    public int straw(int c, int s) {
        if (noCellar(c) || out(s, 0, 9)) {
            return bad();
        }
        int was = now.cellars.get(c).straw;
        now.cellars.get(c).straw = s;
        now.past.clear();
        return was;
    }

    public int slinger(int kind, int arm) {
        if (out(kind, 0, 5) || out(arm, 0, 9)) {
            return bad();
        }
        if (now.slingers.size() == 6) {
            return full();
        }
        now.slingers.add(new int[] {kind, arm});
        now.past.clear();
        return now.slingers.size() - 1;
    }

    public int cloud(int far, int need) {
        if (out(far, 1, 30) || out(need, 1, 40)) {
            return bad();
        }
        if (now.clouds.size() == 4) {
            return full();
        }
        Cloud k = new Cloud();
        k.far = far;
        k.need = need;
        now.clouds.add(k);
        now.past.clear();
        return now.clouds.size() - 1;
    }

    public int type(int c) {
        if (out(c, 0, 127)) {
            return bad();
        }
        if (text.length() == 150) {
            return full();
        }
        text += (char) c;
        return text.length();
    }

    public int clear() {
        int had = text.length();
        text = "";
        return had;
    }

    private static final class Fault extends RuntimeException {
        final int place;

        Fault(int place) {
            this.place = place;
        }
    }

    /** Words, numbers and marks with their places; a mark that begins no token is kept as it is. */
    private List<String> tokens(List<Integer> places) {
        List<String> all = new ArrayList<>();
        java.util.regex.Matcher m = java.util.regex.Pattern.compile("[a-z]+|[0-9]+|[^ ]", java.util.regex.Pattern.DOTALL).matcher(text);
        while (m.find()) {
            all.add(m.group());
            places.add(m.start());
        }
        places.add(text.length());
        return all;
    }

    private int at;
    private List<String> tokens;
    private List<Integer> places;

    private String peek() {
        return at < tokens.size() ? tokens.get(at) : "";
    }

    private Fault fault() {
        return new Fault(places.get(at));
    }

    private int number(int low, int high) {
        if (!peek().matches("[0-9]{1,2}") || out(Integer.parseInt(peek()), low, high)) {
            throw fault();
        }
        return Integer.parseInt(tokens.get(at++));
    }

    public int read() {
        State before = now;
        int[] status = refused.clone();
        places = new ArrayList<>();
        tokens = tokens(places);
        at = 0;
        now = new State();
        try {
            return readItems();
        } catch (Fault f) {
            now = before;
            return -10 - f.place;
        } finally {
            System.arraycopy(status, 0, refused, 0, 3);
        }
    }

    private int readItems() {
        int items = 0;
        while (items == 0 || at < tokens.size()) {
            String word = peek();
            boolean roomy = word.equals("cellar") ? now.cellars.size() < 5 : word.equals("slinger") ? now.slingers.size() < 6
                    : !word.equals("cloud") || now.clouds.size() < 4;
            boolean known = Arrays.asList("store", "cellar", "slinger", "cloud", "weeks").contains(word);
            if (!known || !roomy || word.equals("store") != (items == 0)) {
                throw fault();
            }
            at++;
            readBehind(word);
            if (!peek().equals(";")) {
                throw fault();
            }
            at++;
            items++;
        }
        now.past.clear();
        return items;
    }

    private void readBehind(String word) {
        if (word.equals("store")) {
            store(number(0, 9));
        } else if (word.equals("cellar")) {
            int kind = number(0, 5);
            int c = cellar(kind, number(0, 9));
            for (int r = 1; r <= 9 && peek().matches("[0-9]{1,2}"); r++) {
                int n = number(0, 99);
                if (n > 0) {
                    stones(c, r, n);
                }
            }
        } else if (word.equals("slinger")) {
            int kind = number(0, 5);
            slinger(kind, number(0, 9));
        } else if (word.equals("cloud")) {
            int far = number(1, 30);
            cloud(far, number(1, 40));
        } else {
            goWeeks(number(1, 99));
        }
    }

    // ---- weeks

    private void goWeeks(int n) {
        for (int i = 0; i < n; i++) {
            if (now.week == 999) {
                return;
            }
            for (Cellar c : now.cellars) {
                meltStones(c, melt(c.kind, now.week, c.straw));
            }
            now.week++;
        }
    }

    public int week(int n) {
        if (out(n, 1, 60)) {
            return bad();
        }
        keepForUndo();
        goWeeks(n);
        return inAll(now);
    }

    public int door(int c) {
        if (noCellar(c)) {
            return bad();
        }
        keepForUndo();
        meltStones(now.cellars.get(c), cost(now.cellars.get(c).kind));
        return now.cellars.get(c).stones.size();
    }

    public int throwing(int s, int c, int r, int k) {
        if (noSlinger(s) || noCellar(c) || out(r, 1, 9) || noCloud(k)) {
            return bad();
        }
        Cellar in = now.cellars.get(c);
        if (!in.stones.contains(r) || now.clouds.get(k).far == 0) {
            return no();
        }
        keepForUndo();
        in.stones.remove((Integer) r);
        meltStones(in, cost(in.kind));
        Cloud at = now.clouds.get(k);
        if (at.far > farOf(s, r, now.wind)) {
            return 0;
        }
        at.hits = Math.min(40, at.hits + hitsOf(s, r));
        return hitsOf(s, r);
    }

    public int hour() {
        keepForUndo();
        int here = 0;
        for (Cloud k : now.clouds) {
            k.hourGoesBy();
            here += k.far == 0 ? 1 : 0;
        }
        return here;
    }

    public int wind(int v) {
        if (out(v, 0, 9)) {
            return bad();
        }
        keepForUndo();
        int was = now.wind;
        now.wind = v;
        return was;
    }

    public int undo() {
        if (now.past.isEmpty()) {
            return no();
        }
        State moment = now.past.remove(now.past.size() - 1).copy();
        now.week = moment.week;
        now.wind = moment.wind;
        now.cellars = moment.cellars;
        now.clouds = moment.clouds;
        return now.week;
    }

    public int of(int c, int what) {
        if (noCellar(c) || out(what, 0, 3)) {
            return bad();
        }
        Cellar in = now.cellars.get(c);
        return new int[] {in.kind, in.straw, cost(in.kind), in.stones.size()}[what];
    }

    public int has(int c, int r) {
        if (noCellar(c) || out(r, 1, 9)) {
            return bad();
        }
        return howMany(now.cellars.get(c), r, r);
    }

    public int about(int s, int what) {
        if (noSlinger(s) || out(what, 0, 1)) {
            return bad();
        }
        return now.slingers.get(s)[what];
    }

    public int sky(int k, int what) {
        if (noCloud(k) || out(what, 0, 3)) {
            return bad();
        }
        Cloud at = now.clouds.get(k);
        return new int[] {at.far, at.need, at.hits, at.turned() ? 1 : 0}[what];
    }

    // ---- what is left

    public int melts(int c, int w) {
        if (noCellar(c) || out(w, 0, 999)) {
            return bad();
        }
        return melt(now.cellars.get(c).kind, w, now.cellars.get(c).straw);
    }

    private Cellar behind(int c, int straw, int m, int d) {
        Cellar in = now.cellars.get(c).copy();
        for (int i = 0; i < m; i++) {
            for (int j = 0; j < d; j++) {
                meltStones(in, cost(in.kind));
            }
            meltStones(in, melt(in.kind, now.week + i, straw));
        }
        return in;
    }

    public int then(int c, int m, int d, int what) {
        if (noCellar(c) || out(m, 0, 60) || out(d, 0, 9) || out(what, 0, 4)) {
            return bad();
        }
        Cellar in = behind(c, now.cellars.get(c).straw, m, d);
        if (what == 4) {
            return in.stones.stream().mapToInt(r -> r).max().orElse(0);
        }
        return (int) in.stones.stream().filter(r -> what == 0 || size(r) == what).count();
    }

    public int lasts(int c, int r) {
        if (noCellar(c) || out(r, 1, 9)) {
            return bad();
        }
        for (int m = 0; m <= 99; m++) {
            if (howMany(behind(c, now.cellars.get(c).straw, m, 0), r, 9) == 0) {
                return m;
            }
        }
        return NONE;
    }

    public int least(int c, int r, int m) {
        if (noCellar(c) || out(r, 1, 9) || out(m, 0, 60)) {
            return bad();
        }
        for (int straw = 0; straw <= 9; straw++) {
            if (howMany(behind(c, straw, m, 0), r, 9) > 0) {
                return straw;
            }
        }
        return NONE;
    }

    // ---- throws

    public int throwsOf(int s, int r, int what) {
        if (noSlinger(s) || out(r, 1, 9) || out(what, 0, 1)) {
            return bad();
        }
        return what == 0 ? farOf(s, r, now.wind) : hitsOf(s, r);
    }

    private boolean reaches(int s, int k, int r, int v) {
        return now.clouds.get(k).far != 0 && now.clouds.get(k).far <= farOf(s, r, v);
    }

    public int reach(int s, int k) {
        if (noSlinger(s) || noCloud(k)) {
            return bad();
        }
        int bits = 0;
        for (int r = 1; r <= 9; r++) {
            bits += reaches(s, k, r, now.wind) ? 1 << r : 0;
        }
        return bits;
    }

    /** All ways by counts of stones: which (stones, hits, rings) can be had, stone kind by stone kind. */
    public int turn(int k, int s, int c, int what) {
        if (noCloud(k) || noSlinger(s) || noCellar(c) || out(what, 0, 1)) {
            return bad();
        }
        Cloud at = now.clouds.get(k);
        if (at.turned()) {
            return 0;
        }
        Map<Integer, Integer> rings = new HashMap<>();
        rings.put(0, 0);
        for (int r = 1; r <= 9; r++) {
            if (!reaches(s, k, r, now.wind)) {
                continue;
            }
            Map<Integer, Integer> more = new HashMap<>();
            for (int n = 0; n <= Math.min(40, howMany(now.cellars.get(c), r, r)); n++) {
                for (Map.Entry<Integer, Integer> e : rings.entrySet()) {
                    int stones = e.getKey() / 1000 + n;
                    int hits = Math.min(40, e.getKey() % 1000 + n * hitsOf(s, r));
                    if (stones <= 40) {
                        more.merge(1000 * stones + hits, e.getValue() + n * r, Math::min);
                    }
                }
            }
            rings = more;
        }
        int[] best = null;
        for (Map.Entry<Integer, Integer> e : rings.entrySet()) {
            int stones = e.getKey() / 1000;
            boolean turns = at.hits + e.getKey() % 1000 >= at.need;
            if (turns && (best == null || stones < best[0] || stones == best[0] && e.getValue() < best[1])) {
                best = new int[] {stones, e.getValue()};
            }
        }
        return best == null ? NONE : best[what];
    }

    public int meet(int r, int s) {
        if (out(r, 1, 9) || !now.clouds.isEmpty() && s != NONE && noSlinger(s)) {
            refused[0]++;
            return -10;
        }
        if (now.clouds.isEmpty()) {
            return NONE;
        }
        int n = now.slingers.size();
        int most = -1;
        int[] first = null;
        int[] way = new int[n];
        while (way != null) {
            int turned = turnedBy(way, r);
            if (turned > most) {
                most = turned;
                first = way.clone();
            }
            int i = n - 1;
            while (i >= 0 && way[i] == now.clouds.size() - 1) {
                way[i--] = 0;
            }
            if (i < 0) {
                way = null;
            } else {
                way[i]++;
            }
        }
        return s == NONE ? most : first[s];
    }

    private int turnedBy(int[] way, int r) {
        List<Cloud> clouds = new ArrayList<>();
        for (Cloud k : now.clouds) {
            clouds.add(k.copy());
        }
        for (int hour = 0; hour < 30; hour++) {
            for (int s = 0; s < way.length; s++) {
                Cloud at = clouds.get(way[s]);
                if (at.far > 0 && at.far <= farOf(s, r, now.wind)) {
                    at.hits = Math.min(40, at.hits + hitsOf(s, r));
                }
            }
            for (Cloud k : clouds) {
                k.hourGoesBy();
            }
        }
        int turned = 0;
        for (Cloud k : clouds) {
            turned += k.turned() ? 1 : 0;
        }
        return turned;
    }

    public int doors(int r, int what) {
        if (out(r, 1, 9) || out(what, 0, 1)) {
            return bad();
        }
        int[] best = null;
        for (int c = 0; c < now.cellars.size(); c++) {
            int before = howMany(now.cellars.get(c), r, 9);
            Cellar opened = now.cellars.get(c).copy();
            meltStones(opened, cost(opened.kind));
            int less = before - howMany(opened, r, 9);
            if (before > 0 && (best == null || less < best[1])) {
                best = new int[] {c, less};
            }
        }
        return best == null ? NONE : best[what];
    }

    // ---- who cooled wine

    public int rings(int c, int w, int x, int y) {
        if (noCellar(c) || out(w, 0, 99) || out(x, 1, 9) || out(y, 0, 9) || y > x) {
            return bad();
        }
        if (now.rings.size() == 4) {
            return full();
        }
        now.rings.add(new int[] {c, w, x, y});
        return now.rings.size();
    }

    private int doorsBy(int[] told) {
        Cellar in = now.cellars.get(told[0]);
        int bits = 0;
        for (int d = 0; d <= 9; d++) {
            int greatest = told[2];
            for (int j = 0; j < d; j++) {
                greatest = Math.max(0, greatest - cost(in.kind));
            }
            greatest = Math.max(0, greatest - melt(in.kind, told[1], in.straw));
            bits += greatest == told[3] ? 1 << d : 0;
        }
        return bits;
    }

    public int cooled(int i) {
        return out(i, 0, now.rings.size() - 1) ? bad() : doorsBy(now.rings.get(i));
    }

    public int even(int c) {
        if (noCellar(c)) {
            return bad();
        }
        int bits = 1023;
        for (int[] told : now.rings) {
            bits &= told[0] == c ? doorsBy(told) : 1023;
        }
        return bits;
    }

    public int note(int c, int s, int w, int x, int cost) {
        if (noCellar(c) || out(s, 0, 9) || out(w, 0, 99) || out(x, 0, 4) || out(cost, 0, 4)) {
            return bad();
        }
        if (now.notes.size() == 6) {
            return full();
        }
        now.notes.add(new int[] {c, s, w, x, cost});
        return now.notes.size();
    }

    public int flew(int s, int r, int v, int x, int h) {
        if (noSlinger(s) || out(r, 1, 9) || out(v, 0, 9) || out(x, 0, 60) || out(h, 0, 12)) {
            return bad();
        }
        if (now.thrown.size() == 6) {
            return full();
        }
        now.thrown.add(new int[] {s, r, v, x, h});
        return now.thrown.size();
    }

    public int forget(int what) {
        if (out(what, 0, 2)) {
            return bad();
        }
        List<int[]> all = what == 0 ? now.rings : what == 1 ? now.notes : now.thrown;
        int were = all.size();
        all.clear();
        return were;
    }

    private List<Integer> cellarKinds(int c) {
        List<Integer> kinds = new ArrayList<>();
        for (int kind = 0; kind <= 5; kind++) {
            int k = kind;
            if (now.notes.stream().allMatch(n -> n[0] != c || melt(k, n[2], n[1]) == n[3] && cost(k) == n[4])) {
                kinds.add(kind);
            }
        }
        return kinds;
    }

    private List<Integer> slingerKinds(int s) {
        List<Integer> kinds = new ArrayList<>();
        int a = now.slingers.get(s)[1];
        for (int kind = 0; kind <= 5; kind++) {
            int k = kind;
            if (now.thrown.stream().allMatch(t -> t[0] != s || far(k, a, t[1], t[2]) == t[3] && hits(k, t[1]) == t[4])) {
                kinds.add(kind);
            }
        }
        return kinds;
    }

    private static int bits(List<Integer> kinds) {
        int bits = 0;
        for (int kind : kinds) {
            bits += 1 << kind;
        }
        return bits;
    }

    private static int greatestGroup(List<String> does) {
        Map<String, Integer> groups = new HashMap<>();
        for (String one : does) {
            groups.merge(one, 1, Integer::sum);
        }
        int most = 0;
        for (int n : groups.values()) {
            most = Math.max(most, n);
        }
        return most;
    }

    public int is(int c) {
        return noCellar(c) ? bad() : bits(cellarKinds(c));
    }

    public int watch(int c) {
        if (noCellar(c)) {
            return bad();
        }
        int best = NONE;
        int fewest = 7;
        for (int w = 0; w <= 11; w++) {
            List<String> does = new ArrayList<>();
            for (int kind : cellarKinds(c)) {
                does.add(melt(kind, w, now.cellars.get(c).straw) + "/" + cost(kind));
            }
            if (!does.isEmpty() && greatestGroup(does) < fewest) {
                fewest = greatestGroup(does);
                best = w;
            }
        }
        return best;
    }

    public int who(int s) {
        return noSlinger(s) ? bad() : bits(slingerKinds(s));
    }

    public int ask(int s) {
        if (noSlinger(s)) {
            return bad();
        }
        int best = NONE;
        int fewest = 7;
        for (int r = 1; r <= 9; r++) {
            for (int v = 0; v <= 9; v++) {
                List<String> does = new ArrayList<>();
                for (int kind : slingerKinds(s)) {
                    does.add(far(kind, now.slingers.get(s)[1], r, v) + "/" + hits(kind, r));
                }
                if (!does.isEmpty() && greatestGroup(does) < fewest) {
                    fewest = greatestGroup(does);
                    best = 10 * r + v;
                }
            }
        }
        return best;
    }

    public int parishes(int a, int b, int k, int r) {
        if (noSlinger(a) || noSlinger(b) || a == b || noCloud(k) || out(r, 1, 9)) {
            return bad();
        }
        int bits = 0;
        for (int i = 0; i <= 1; i++) {
            for (int j = 0; j <= 1; j++) {
                boolean aStays = common(a, i, b, j, k, r) - 2 * i >= common(a, 1 - i, b, j, k, r) - 2 * (1 - i);
                boolean bStays = common(a, i, b, j, k, r) - 2 * j >= common(a, i, b, 1 - j, k, r) - 2 * (1 - j);
                bits += aStays && bStays ? 1 << (i + 2 * j) : 0;
            }
        }
        return bits;
    }

    private int common(int a, int i, int b, int j, int k, int r) {
        Cloud at = now.clouds.get(k);
        int hits = at.hits;
        hits += i == 1 && reaches(a, k, r, now.wind) ? hitsOf(a, r) : 0;
        hits += j == 1 && reaches(b, k, r, now.wind) ? hitsOf(b, r) : 0;
        return -Math.max(0, at.need - hits);
    }

    /** Every pattern of gusts on its own, with its odds. */
    public int gusts(int s, int k, int r, int n, int c) {
        if (noSlinger(s) || noCloud(k) || out(r, 1, 9) || out(n, 0, 9) || out(c, 0, 10)) {
            return bad();
        }
        BigInteger sum = BigInteger.ZERO;
        for (int pattern = 0; pattern < 1 << n; pattern++) {
            long odds = 1;
            int made = 0;
            for (int i = 0; i < n; i++) {
                boolean gust = (pattern >> i & 1) == 1;
                odds *= gust ? c : 10 - c;
                made += reaches(s, k, r, gust ? Math.min(9, now.wind + 4) : now.wind) ? hitsOf(s, r) : 0;
            }
            sum = sum.add(BigInteger.valueOf(odds).multiply(BigInteger.valueOf(made)));
        }
        BigInteger all = BigInteger.TEN.pow(n);
        BigInteger shared = sum.gcd(all);
        above = sum.divide(shared).longValueExact();
        below = all.divide(shared).longValueExact();
        return 1;
    }

    public int summers(int seed, int n) {
        if (out(seed, 0, 999999) || out(n, 0, 60)) {
            return bad();
        }
        State s = now.copy();
        BigInteger x = BigInteger.valueOf(seed);
        for (int i = 0; i < n; i++) {
            x = x.multiply(BigInteger.valueOf(1103515245)).add(BigInteger.valueOf(12345)).mod(BigInteger.valueOf(2147483648L));
            int c = x.divide(BigInteger.valueOf(65536)).mod(BigInteger.valueOf(5)).intValue();
            if (c < s.cellars.size()) {
                meltStones(s.cellars.get(c), cost(s.cellars.get(c).kind));
            }
            for (Cellar in : s.cellars) {
                meltStones(in, melt(in.kind, s.week + i, in.straw));
            }
        }
        return inAll(s);
    }

    // ---- what there is

    public long part(int what) {
        return out(what, 0, 1) ? bad() : what == 0 ? above : below;
    }

    public int image(int i) {
        if (out(i, 0, 1)) {
            return bad();
        }
        images[i] = now.copy();
        return 1;
    }

    public int from(int i) {
        if (out(i, 0, 1)) {
            return bad();
        }
        if (images[i] == null) {
            return no();
        }
        now = images[i].copy();
        return 1;
    }

    public int status(int what) {
        if (out(what, 0, 2)) {
            refused[0]++;
            return -1;
        }
        return refused[what];
    }

    private int[] counts() {
        int turned = 0;
        for (Cloud k : now.clouds) {
            turned += k.turned() ? 1 : 0;
        }
        return new int[] {now.cellars.size(), now.slingers.size(), now.clouds.size(), now.week, now.wind, inAll(now), turned,
            now.rings.size(), now.notes.size(), now.thrown.size(), now.past.size(), text.length()};
    }

    public int count(int what) {
        return out(what, 0, 11) ? bad() : counts()[what];
    }

    public long digest() {
        List<Long> all = new ArrayList<>();
        for (int v : counts()) {
            all.add((long) v);
        }
        for (Cellar c : now.cellars) {
            all.add((long) c.kind);
            all.add((long) c.straw);
            for (int r = 1; r <= 9; r++) {
                all.add((long) howMany(c, r, r));
            }
        }
        for (int[] row : now.slingers) {
            addAll(all, row);
        }
        for (Cloud k : now.clouds) {
            addAll(all, new int[] {k.far, k.need, k.hits});
        }
        for (List<int[]> rows : Arrays.asList(now.rings, now.notes, now.thrown)) {
            for (int[] row : rows) {
                addAll(all, row);
            }
        }
        all.add(above);
        all.add(below);
        long h = 1471;
        for (long v : all) {
            h = 31 * h + v;
        }
        return h;
    }

    private static void addAll(List<Long> all, int[] row) {
        for (int v : row) {
            all.add((long) v);
        }
    }
}
