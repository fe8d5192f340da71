public final class HailCellar {
    public static final int NONE = -1, BAD = -2, NO = -3, FULL = -4;

    private static final int RINGS_MOST = 9, STRAW_MOST = 9, KIND_MOST = 5, KINDS = 6;
    private static final int ARM_MOST = 9, WIND_MOST = 9, GUST = 4;
    private static final int STONES_MOST = 99, HITS_MOST = 40, FAR_MOST = 30, NEED_MOST = 40;
    private static final int WEEK_MOST = 999, WEEKS_AHEAD_MOST = 60, WEEK_TOLD_MOST = 99;
    private static final int CELLARS_MOST = 5, SLINGERS_MOST = 6, CLOUDS_MOST = 4;
    private static final int RINGS_TOLD_MOST = 4, NOTES_MOST = 6, THROWN_MOST = 6;
    private static final int UNDO_MOST = 8, DOORS_MOST = 9, SEED_MOST = 999999, TEXT_MOST = 150;
    private static final int FAULT = -10, MEET_BAD = -10, STATUS_BAD = -1;

    // columns of the rows that a store is kept in; a cellar's STONES of r RINGS stand r behind STONES
    private static final int KIND = 0, STRAW = 1, STONES = 1, CELLAR_WIDTH = 11;
    private static final int ARM = 1, SLINGER_WIDTH = 2;
    private static final int FAR = 0, NEED = 1, HITS = 2, CLOUD_WIDTH = 3;
    private static final int OWNER = 0;
    private static final int TOLD_WEEK = 1, TOLD_BEFORE = 2, TOLD_BEHIND = 3, RINGS_TOLD_WIDTH = 4;
    private static final int NOTE_STRAW = 1, NOTE_WEEK = 2, NOTE_MELTED = 3, NOTE_COST = 4, NOTE_WIDTH = 5;
    private static final int THROWN_RINGS = 1, THROWN_WIND = 2, THROWN_FAR = 3, THROWN_HITS = 4, THROWN_WIDTH = 5;

    private final Store now = new Store();
    private final Store firstImage = new Store();
    private final Store secondImage = new Store();
    private final Store draft = new Store();
    private final Reader reader = new Reader(draft);
    private final Forecast forecast = new Forecast(now);
    private final Battle battle = new Battle(now);
    private final Sleuth sleuth = new Sleuth(now);
    private boolean firstKept;
    private boolean secondKept;
    private long above = 0;
    private long below = 1;
    private int bads;
    private int noes;
    private int fulls;

    public HailCellar() {
    }

    // ---- a store

    public int store(int wind) {
        if (!within(wind, 0, WIND_MOST)) {
            return bad();
        }
        int before = now.cellars.rows;
        now.reset(wind);
        return before;
    }

    public int cellar(int kind, int straw) {
        if (!within(kind, 0, KIND_MOST) || !within(straw, 0, STRAW_MOST)) {
            return bad();
        }
        if (now.cellars.isFull()) {
            return full();
        }
        now.past.empty();
        return now.addCellar(kind, straw);
    }

    public int stones(int c, int r, int n) {
        if (!now.cellars.holds(c) || !isRings(r) || !within(n, 1, STONES_MOST)) {
            return bad();
        }
        now.past.empty();
        now.putStones(c, r, Math.min(STONES_MOST, now.stonesOf(c, r) + n));
        return now.stonesOf(c, r);
    }

    public int straw(int c, int s) {
        if (!now.cellars.holds(c) || !within(s, 0, STRAW_MOST)) {
            return bad();
        }
        int before = now.cellars.get(c, STRAW);
        now.past.empty();
        now.cellars.put(c, STRAW, s);
        return before;
    }

    public int slinger(int kind, int arm) {
        if (!within(kind, 0, KIND_MOST) || !within(arm, 0, ARM_MOST)) {
            return bad();
        }
        if (now.slingers.isFull()) {
            return full();
        }
        now.past.empty();
        return now.addSlinger(kind, arm);
    }

    public int cloud(int far, int need) {
        if (!within(far, 1, FAR_MOST) || !within(need, 1, NEED_MOST)) {
            return bad();
        }
        if (now.clouds.isFull()) {
            return full();
        }
        now.past.empty();
        return now.addCloud(far, need);
    }

    public int type(int c) {
        if (!within(c, 0, 127)) {
            return bad();
        }
        if (reader.isTextFull()) {
            return full();
        }
        return reader.append(c);
    }

    public int clear() {
        return reader.dropText();
    }

    public int read() {
        int items = reader.readStore();
        if (items >= 0) {
            now.copyFrom(draft);
        }
        return items;
    }

    // ---- weeks

    public int week(int n) {
        if (!within(n, 1, WEEKS_AHEAD_MOST)) {
            return bad();
        }
        now.remember();
        now.passWeeks(n);
        return now.allStones();
    }

    public int door(int c) {
        if (!now.cellars.holds(c)) {
            return bad();
        }
        now.remember();
        now.openDoor(c);
        return now.stonesFrom(c, 1);
    }

    public int throwing(int s, int c, int r, int k) {
        if (!now.slingers.holds(s) || !now.cellars.holds(c) || !isRings(r) || !now.clouds.holds(k)) {
            return bad();
        }
        if (now.stonesOf(c, r) == 0 || now.isHere(k)) {
            return no();
        }
        now.remember();
        return now.throwStone(s, c, r, k);
    }

    public int hour() {
        now.remember();
        return now.passHour();
    }

    public int wind(int v) {
        if (!within(v, 0, WIND_MOST)) {
            return bad();
        }
        int before = now.wind;
        now.remember();
        now.wind = v;
        return before;
    }

    public int undo() {
        if (now.past.rows == 0) {
            return no();
        }
        now.goBack();
        return now.week;
    }

    public int of(int c, int what) {
        if (!now.cellars.holds(c)) {
            return bad();
        }
        switch (what) {
            case 0: return now.cellars.get(c, KIND);
            case 1: return now.cellars.get(c, STRAW);
            case 2: return now.doorCost(c);
            case 3: return now.stonesFrom(c, 1);
            default: return bad();
        }
    }

    public int has(int c, int r) {
        return now.cellars.holds(c) && isRings(r) ? now.stonesOf(c, r) : bad();
    }

    public int about(int s, int what) {
        return now.slingers.holds(s) && within(what, KIND, ARM) ? now.slingers.get(s, what) : bad();
    }

    public int sky(int k, int what) {
        if (!now.clouds.holds(k) || !within(what, 0, 3)) {
            return bad();
        }
        if (what == 3) {
            return now.isTurned(k) ? 1 : 0;
        }
        return now.clouds.get(k, what);
    }

    // ---- what is left

    public int melts(int c, int w) {
        return now.cellars.holds(c) && within(w, 0, WEEK_MOST) ? now.meltIn(c, w) : bad();
    }

    public int then(int c, int m, int d, int what) {
        if (!now.cellars.holds(c) || !within(m, 0, WEEKS_AHEAD_MOST) || !within(d, 0, DOORS_MOST) || !within(what, 0, 4)) {
            return bad();
        }
        return forecast.leftBehind(c, m, d, what);
    }

    public int lasts(int c, int r) {
        return now.cellars.holds(c) && isRings(r) ? forecast.weeksKept(c, r) : bad();
    }

    public int least(int c, int r, int m) {
        if (!now.cellars.holds(c) || !isRings(r) || !within(m, 0, WEEKS_AHEAD_MOST)) {
            return bad();
        }
        return forecast.leastStraw(c, r, m);
    }

    // ---- throws

    public int throwsOf(int s, int r, int what) {
        if (!now.slingers.holds(s) || !isRings(r) || !within(what, 0, 1)) {
            return bad();
        }
        return what == 0 ? now.throwFar(s, r, now.wind) : now.throwHits(s, r);
    }

    public int reach(int s, int k) {
        return now.slingers.holds(s) && now.clouds.holds(k) ? battle.reachingRings(s, k) : bad();
    }

    public int turn(int k, int s, int c, int what) {
        if (!now.clouds.holds(k) || !now.slingers.holds(s) || !now.cellars.holds(c) || !within(what, 0, 1)) {
            return bad();
        }
        int price = battle.priceToTurn(k, s, c);
        if (price == NONE) {
            return NONE;
        }
        return what == 0 ? price / Battle.STONE_PRICE : price % Battle.STONE_PRICE;
    }

    public int meet(int r, int s) {
        if (!isRings(r)) {
            return refusedAsBad(MEET_BAD);
        }
        if (now.clouds.rows == 0) {
            return NONE;
        }
        if (s != NONE && !now.slingers.holds(s)) {
            return refusedAsBad(MEET_BAD);
        }
        int turned = battle.mostTurned(r);
        return s == NONE ? turned : battle.givenCloud(s);
    }

    public int doors(int r, int what) {
        if (!isRings(r) || !within(what, 0, 1)) {
            return bad();
        }
        int c = forecast.cheapestDoor(r);
        return c == NONE || what == 0 ? c : forecast.lostByDoor(c, r);
    }

    // ---- who cooled wine

    public int rings(int c, int w, int x, int y) {
        if (!now.cellars.holds(c) || !within(w, 0, WEEK_TOLD_MOST) || !isRings(x) || !within(y, 0, x)) {
            return bad();
        }
        if (now.ringsTold.isFull()) {
            return full();
        }
        return now.ringsTold.addRow(c, w, x, y, 0);
    }

    public int cooled(int i) {
        return now.ringsTold.holds(i) ? sleuth.doorsBy(i) : bad();
    }

    public int even(int c) {
        return now.cellars.holds(c) ? sleuth.doorsByAll(c) : bad();
    }

    public int note(int c, int s, int w, int x, int cost) {
        if (!now.cellars.holds(c) || !within(s, 0, STRAW_MOST) || !within(w, 0, WEEK_TOLD_MOST)
                || !within(x, 0, 4) || !within(cost, 0, 4)) {
            return bad();
        }
        if (now.notes.isFull()) {
            return full();
        }
        return now.notes.addRow(c, s, w, x, cost);
    }

    public int flew(int s, int r, int v, int x, int h) {
        if (!now.slingers.holds(s) || !isRings(r) || !within(v, 0, WIND_MOST)
                || !within(x, 0, 60) || !within(h, 0, 12)) {
            return bad();
        }
        if (now.thrown.isFull()) {
            return full();
        }
        return now.thrown.addRow(s, r, v, x, h);
    }

    public int forget(int what) {
        switch (what) {
            case 0: return now.ringsTold.empty();
            case 1: return now.notes.empty();
            case 2: return now.thrown.empty();
            default: return bad();
        }
    }

    public int is(int c) {
        return now.cellars.holds(c) ? sleuth.kindsOfCellar(c) : bad();
    }

    public int watch(int c) {
        return now.cellars.holds(c) ? sleuth.weekToWatch(c) : bad();
    }

    public int who(int s) {
        return now.slingers.holds(s) ? sleuth.kindsOfSlinger(s) : bad();
    }

    public int ask(int s) {
        return now.slingers.holds(s) ? sleuth.throwToAsk(s) : bad();
    }

    public int parishes(int a, int b, int k, int r) {
        if (!now.slingers.holds(a) || !now.slingers.holds(b) || a == b || !now.clouds.holds(k) || !isRings(r)) {
            return bad();
        }
        return battle.pairsThatRest(a, b, k, r);
    }

    public int gusts(int s, int k, int r, int n, int c) {
        if (!now.slingers.holds(s) || !now.clouds.holds(k) || !isRings(r) || !within(n, 0, 9) || !within(c, 0, 10)) {
            return bad();
        }
        int calm = now.hitsAt(s, k, r, now.wind);
        int gusty = now.hitsAt(s, k, r, Math.min(WIND_MOST, now.wind + GUST));
        keepFraction(n * (c * gusty + (10 - c) * calm), 10);
        return 1;
    }

    public int summers(int seed, int n) {
        if (!within(seed, 0, SEED_MOST) || !within(n, 0, WEEKS_AHEAD_MOST)) {
            return bad();
        }
        return forecast.leftBySeed(seed, n);
    }

    // ---- what there is

    public long part(int what) {
        switch (what) {
            case 0: return above;
            case 1: return below;
            default: return bad();
        }
    }

    public int image(int i) {
        switch (i) {
            case 0:
                firstImage.copyFrom(now);
                firstKept = true;
                return 1;
            case 1:
                secondImage.copyFrom(now);
                secondKept = true;
                return 1;
            default:
                return bad();
        }
    }

    public int from(int i) {
        if (!within(i, 0, 1)) {
            return bad();
        }
        boolean kept = i == 0 ? firstKept : secondKept;
        if (!kept) {
            return no();
        }
        now.copyFrom(i == 0 ? firstImage : secondImage);
        return 1;
    }

    public int status(int what) {
        switch (what) {
            case 0: return bads;
            case 1: return noes;
            case 2: return fulls;
            default: return refusedAsBad(STATUS_BAD);
        }
    }

    public int count(int what) {
        return within(what, 0, 11) ? amount(what) : bad();
    }

    public long digest() {
        long h = 1471;
        for (int what = 0; what <= 11; what++) {
            h = 31 * h + amount(what);
        }
        h = now.cellars.mixInto(h);
        h = now.slingers.mixInto(h);
        h = now.clouds.mixInto(h);
        h = now.ringsTold.mixInto(h);
        h = now.notes.mixInto(h);
        h = now.thrown.mixInto(h);
        h = 31 * h + above;
        return 31 * h + below;
    }

    private int amount(int what) {
        switch (what) {
            case 0: return now.cellars.rows;
            case 1: return now.slingers.rows;
            case 2: return now.clouds.rows;
            case 3: return now.week;
            case 4: return now.wind;
            case 5: return now.allStones();
            case 6: return now.turnedClouds();
            case 7: return now.ringsTold.rows;
            case 8: return now.notes.rows;
            case 9: return now.thrown.rows;
            case 10: return now.past.rows;
            default: return reader.length;
        }
    }

    private void keepFraction(int top, int bottom) {
        int a = top;
        int b = bottom;
        for (int i = 0; i < 64 && b != 0; i++) {
            int left = a % b;
            a = b;
            b = left;
        }
        if (a > 0) {
            above = top / a;
            below = bottom / a;
        }
    }

    private int bad() {
        return refusedAsBad(BAD);
    }

    private int refusedAsBad(int answer) {
        bads++;
        return answer;
    }

    private int no() {
        noes++;
        return NO;
    }

    private int full() {
        fulls++;
        return FULL;
    }

    private static boolean within(int v, int low, int high) {
        return low <= v && v <= high;
    }

    private static boolean isRings(int r) {
        return within(r, 1, RINGS_MOST);
    }

    /** What each KIND does, told by the KIND that it is under. */
    private static final class Kinds {
        private static final int DEEP = 1, SOUTH = 2, CHURCH = 3, WELL = 4, WINE = 5;
        private static final int CHILD = 1, STRONG = 2, HILL = 3, MASTER = 4, TWIN = 5;

        static int meltBy(int kind, int week, int straw) {
            int plain = week % 2 == 0 && straw >= 5 ? 0 : 1;
            int deep = week % 3 == 0 ? 0 : plain;
            int south = plain + 1;
            switch (kind) {
                case DEEP: return deep;
                case SOUTH: return south;
                case CHURCH: return 0;
                case WELL: return straw >= 8 ? 0 : deep;
                case WINE: return south;
                default: return plain;
            }
        }

        static int costOfDoor(int kind) {
            switch (kind) {
                case WELL: return 0;
                case WINE: return 2;
                default: return 1;
            }
        }

        static int farBy(int kind, int arm, int rings, int wind) {
            int plain = Math.max(0, 2 * arm + rings - wind);
            int child = rings > 3 ? 0 : plain;
            switch (kind) {
                case CHILD: return child;
                case STRONG: return plain + 4;
                case HILL: return Math.max(0, plain - wind);
                case MASTER: return Math.max(0, 2 * arm + rings) + 4;
                case TWIN: return child;
                default: return plain;
            }
        }

        static int hitsBy(int kind, int rings) {
            int plain = (rings + 2) / 3;
            int child = plain + 2;
            switch (kind) {
                case CHILD: return child;
                case HILL: return rings >= 7 ? plain + 1 : plain;
                case TWIN: return 2 * child;
                default: return plain;
            }
        }
    }

    /** Rows of numbers, so many at most. A place that is not there reads as 0 and takes nothing. */
    private static final class Sheet {
        private final int most;
        private final int width;
        private final int[] cells;
        int rows;

        Sheet(int most, int width) {
            this.most = Math.max(0, most);
            this.width = Math.max(0, width);
            this.cells = new int[this.most * this.width];
        }

        boolean holds(int row) {
            return row >= 0 && row < rows;
        }

        boolean isFull() {
            return rows >= most;
        }

        private int placeOf(int row, int column) {
            return row >= 0 && row < rows && column >= 0 && column < width ? row * width + column : NONE;
        }

        int get(int row, int column) {
            int at = placeOf(row, column);
            return at >= 0 && at < cells.length ? cells[at] : 0;
        }

        void put(int row, int column, int v) {
            int at = placeOf(row, column);
            if (at >= 0 && at < cells.length) {
                cells[at] = v;
            }
        }

        /** The number of a new row of 0s. */
        int openRow() {
            if (isFull()) {
                return NONE;
            }
            rows++;
            for (int column = 0; column < width; column++) {
                put(rows - 1, column, 0);
            }
            return rows - 1;
        }

        /** How many rows there are then; numbers beyond the width are left out. */
        int addRow(int a, int b, int c, int d, int e) {
            int row = openRow();
            put(row, 0, a);
            put(row, 1, b);
            put(row, 2, c);
            put(row, 3, d);
            put(row, 4, e);
            return rows;
        }

        int empty() {
            int before = rows;
            rows = 0;
            return before;
        }

        void dropFirst() {
            if (rows > 0 && width <= cells.length) {
                System.arraycopy(cells, width, cells, 0, cells.length - width);
                rows--;
            }
        }

        /** All cells of the other sheet are put into one row, from a column on. */
        void putSheet(int row, int column, Sheet other) {
            int at = placeOf(row, column);
            if (at >= 0 && other != null && other.cells.length <= width - column && other.cells.length <= cells.length - at) {
                System.arraycopy(other.cells, 0, cells, at, other.cells.length);
            }
        }

        void getSheet(int row, int column, Sheet other) {
            int at = placeOf(row, column);
            if (at >= 0 && other != null && other.cells.length <= width - column && other.cells.length <= cells.length - at) {
                System.arraycopy(cells, at, other.cells, 0, other.cells.length);
            }
        }

        void copyFrom(Sheet other) {
            if (other != null && other.most == most && other.cells.length == cells.length) {
                System.arraycopy(other.cells, 0, cells, 0, cells.length);
                rows = other.rows;
            }
        }

        long mixInto(long h) {
            long mixed = h;
            for (int i = 0; i < rows * width && i < cells.length; i++) {
                mixed = 31 * mixed + cells[i];
            }
            return mixed;
        }
    }

    /** All that an IMAGE keeps. */
    private static final class Store {
        // a moment that may be gone back to: week, wind, then all cells of the cellars and of the clouds
        private static final int CELLARS_AT = 2, CLOUDS_AT = CELLARS_AT + CELLARS_MOST * CELLAR_WIDTH;
        private static final int MOMENT_WIDTH = CLOUDS_AT + CLOUDS_MOST * CLOUD_WIDTH;

        int week;
        int wind;
        final Sheet cellars = new Sheet(CELLARS_MOST, CELLAR_WIDTH);
        final Sheet slingers = new Sheet(SLINGERS_MOST, SLINGER_WIDTH);
        final Sheet clouds = new Sheet(CLOUDS_MOST, CLOUD_WIDTH);
        final Sheet ringsTold = new Sheet(RINGS_TOLD_MOST, RINGS_TOLD_WIDTH);
        final Sheet notes = new Sheet(NOTES_MOST, NOTE_WIDTH);
        final Sheet thrown = new Sheet(THROWN_MOST, THROWN_WIDTH);
        final Sheet past = new Sheet(UNDO_MOST, MOMENT_WIDTH);

        void reset(int newWind) {
            week = 0;
            wind = newWind;
            cellars.empty();
            slingers.empty();
            clouds.empty();
            ringsTold.empty();
            notes.empty();
            thrown.empty();
            past.empty();
        }

        void copyFrom(Store other) {
            if (other == null) {
                return;
            }
            week = other.week;
            wind = other.wind;
            cellars.copyFrom(other.cellars);
            slingers.copyFrom(other.slingers);
            clouds.copyFrom(other.clouds);
            ringsTold.copyFrom(other.ringsTold);
            notes.copyFrom(other.notes);
            thrown.copyFrom(other.thrown);
            past.copyFrom(other.past);
        }

        void remember() {
            if (past.isFull()) {
                past.dropFirst();
            }
            int moment = past.openRow();
            past.put(moment, 0, week);
            past.put(moment, 1, wind);
            past.putSheet(moment, CELLARS_AT, cellars);
            past.putSheet(moment, CLOUDS_AT, clouds);
        }

        void goBack() {
            int moment = past.rows - 1;
            if (!past.holds(moment)) {
                return;
            }
            week = past.get(moment, 0);
            wind = past.get(moment, 1);
            past.getSheet(moment, CELLARS_AT, cellars);
            past.getSheet(moment, CLOUDS_AT, clouds);
            past.rows = moment;
        }

        int addCellar(int kind, int straw) {
            int c = cellars.openRow();
            cellars.put(c, KIND, kind);
            cellars.put(c, STRAW, straw);
            return c;
        }

        int addSlinger(int kind, int arm) {
            int s = slingers.openRow();
            slingers.put(s, KIND, kind);
            slingers.put(s, ARM, arm);
            return s;
        }

        int addCloud(int far, int need) {
            int k = clouds.openRow();
            clouds.put(k, FAR, far);
            clouds.put(k, NEED, need);
            return k;
        }

        int stonesOf(int c, int r) {
            return isRings(r) ? cellars.get(c, STONES + r) : 0;
        }

        void putStones(int c, int r, int n) {
            if (isRings(r)) {
                cellars.put(c, STONES + r, n);
            }
        }

        /** How many STONES have r RINGS or more. */
        int stonesFrom(int c, int r) {
            int sum = 0;
            for (int i = Math.max(1, r); i <= RINGS_MOST; i++) {
                sum += stonesOf(c, i);
            }
            return sum;
        }

        int allStones() {
            int sum = 0;
            for (int c = 0; c < cellars.rows; c++) {
                sum += stonesFrom(c, 1);
            }
            return sum;
        }

        /** The RINGS of the greatest STONE; 0: none. */
        int greatest(int c) {
            for (int r = RINGS_MOST; r >= 1; r--) {
                if (stonesOf(c, r) > 0) {
                    return r;
                }
            }
            return 0;
        }

        int meltIn(int c, int w) {
            return Kinds.meltBy(cellars.get(c, KIND), w, cellars.get(c, STRAW));
        }

        int doorCost(int c) {
            return Kinds.costOfDoor(cellars.get(c, KIND));
        }

        private void loseRings(int c, int n) {
            for (int r = 1; r <= RINGS_MOST; r++) {
                cellars.put(c, STONES + r, r + n <= RINGS_MOST ? cellars.get(c, STONES + r + n) : 0);
            }
        }

        void openDoor(int c) {
            loseRings(c, doorCost(c));
        }

        void passWeeks(int n) {
            for (int i = 0; i < n && week < WEEK_MOST; i++) {
                for (int c = 0; c < cellars.rows; c++) {
                    loseRings(c, meltIn(c, week));
                }
                week++;
            }
        }

        int throwFar(int s, int r, int v) {
            return Kinds.farBy(slingers.get(s, KIND), slingers.get(s, ARM), r, v);
        }

        int throwHits(int s, int r) {
            return Kinds.hitsBy(slingers.get(s, KIND), r);
        }

        boolean isHere(int k) {
            return clouds.get(k, FAR) == 0;
        }

        boolean isTurned(int k) {
            return needsYet(k) <= 0;
        }

        int needsYet(int k) {
            return clouds.get(k, NEED) - clouds.get(k, HITS);
        }

        int turnedClouds() {
            int turned = 0;
            for (int k = 0; k < clouds.rows; k++) {
                if (isTurned(k)) {
                    turned++;
                }
            }
            return turned;
        }

        boolean reaches(int s, int k, int r, int v) {
            return !isHere(k) && clouds.get(k, FAR) <= throwFar(s, r, v);
        }

        /** HITS that one THROW would make now; 0: too FAR, or HERE. */
        int hitsAt(int s, int k, int r, int v) {
            return reaches(s, k, r, v) ? throwHits(s, r) : 0;
        }

        int throwStone(int s, int c, int r, int k) {
            putStones(c, r, Math.max(0, stonesOf(c, r) - 1));
            openDoor(c);
            int made = hitsAt(s, k, r, wind);
            clouds.put(k, HITS, Math.min(HITS_MOST, clouds.get(k, HITS) + made));
            return made;
        }

        /** How many CLOUDS are HERE then. */
        int passHour() {
            int here = 0;
            for (int k = 0; k < clouds.rows; k++) {
                if (!isTurned(k)) {
                    clouds.put(k, FAR, Math.max(0, clouds.get(k, FAR) - 1));
                }
                if (isHere(k)) {
                    here++;
                }
            }
            return here;
        }
    }

    /** THE TEXT, and the STORE that it tells, read into a draft so that a FAULT changes nothing. */
    private static final class Reader {
        private static final int END = 0, WORD = 1, NUMBER = 2, STOP = 3, WRONG = 4;

        private final int[] text = new int[TEXT_MOST];
        int length;
        private final Store draft;
        private int next;
        private int start;
        private int token;
        private int number;

        Reader(Store draft) {
            this.draft = draft;
        }

        boolean isTextFull() {
            return length >= text.length;
        }

        int append(int c) {
            if (length >= 0 && length < text.length) {
                text[length] = c;
                length++;
            }
            return length;
        }

        int dropText() {
            int before = length;
            length = 0;
            return before;
        }

        /** How many ITEMS there are, or FAULT less the place of the FAULT. */
        int readStore() {
            draft.reset(0);
            next = 0;
            advance();
            boolean fine = atWord("store") && storeItem();
            int items = 1;
            for (; fine && token != END && items <= TEXT_MOST; items++) {
                fine = atWord("cellar") ? cellarItem()
                        : atWord("slinger") ? slingerItem()
                        : atWord("cloud") ? cloudItem()
                        : atWord("weeks") && weeksItem();
            }
            return fine ? items : FAULT - start;
        }

        // an item that can not go on answers false and stays at the token that can not stand there

        private boolean storeItem() {
            advance();
            int wind = takeNumber(0, WIND_MOST);
            if (wind == NONE) {
                return false;
            }
            draft.wind = wind;
            return itemEnds();
        }

        private boolean cellarItem() {
            if (draft.cellars.isFull()) {
                return false;
            }
            advance();
            int kind = takeNumber(0, KIND_MOST);
            int straw = kind == NONE ? NONE : takeNumber(0, STRAW_MOST);
            if (straw == NONE) {
                return false;
            }
            int c = draft.addCellar(kind, straw);
            for (int r = 1; r <= RINGS_MOST && token == NUMBER; r++) {
                draft.putStones(c, r, takeNumber(0, STONES_MOST));
            }
            return itemEnds();
        }

        private boolean slingerItem() {
            if (draft.slingers.isFull()) {
                return false;
            }
            advance();
            int kind = takeNumber(0, KIND_MOST);
            int arm = kind == NONE ? NONE : takeNumber(0, ARM_MOST);
            if (arm == NONE) {
                return false;
            }
            draft.addSlinger(kind, arm);
            return itemEnds();
        }

        private boolean cloudItem() {
            if (draft.clouds.isFull()) {
                return false;
            }
            advance();
            int far = takeNumber(1, FAR_MOST);
            int need = far == NONE ? NONE : takeNumber(1, NEED_MOST);
            if (need == NONE) {
                return false;
            }
            draft.addCloud(far, need);
            return itemEnds();
        }

        private boolean weeksItem() {
            advance();
            int n = takeNumber(1, 99);
            if (n == NONE) {
                return false;
            }
            draft.passWeeks(n);
            return itemEnds();
        }

        private boolean itemEnds() {
            if (token != STOP) {
                return false;
            }
            advance();
            return true;
        }

        /** The number that stands here, and on; NONE, and it stays, if none as told stands here. */
        private int takeNumber(int low, int high) {
            if (token != NUMBER || !within(number, low, high)) {
                return NONE;
            }
            int taken = number;
            advance();
            return taken;
        }

        private boolean atWord(String word) {
            if (token != WORD || next - start != word.length()) {
                return false;
            }
            for (int i = 0; i < word.length(); i++) {
                if (byteAt(start + i) != word.charAt(i)) {
                    return false;
                }
            }
            return true;
        }

        private void advance() {
            while (next < length && byteAt(next) == ' ') {
                next++;
            }
            start = next;
            token = tokenBegunBy(byteAt(start));
            next = Math.min(length, start + 1);
            boolean runs = token == WORD || token == NUMBER;
            while (runs && next < length && tokenBegunBy(byteAt(next)) == token) {
                next++;
            }
            if (token == NUMBER) {
                readFigures(next - start);
            }
        }

        private void readFigures(int figures) {
            if (figures > 2) {
                token = WRONG;
                return;
            }
            int first = byteAt(start) - '0';
            number = figures == 2 ? 10 * first + byteAt(start + 1) - '0' : first;
        }

        private static int tokenBegunBy(int b) {
            if (b == NONE) {
                return END;
            }
            if (b == ';') {
                return STOP;
            }
            if ('a' <= b && b <= 'z') {
                return WORD;
            }
            return '0' <= b && b <= '9' ? NUMBER : WRONG;
        }

        private int byteAt(int place) {
            return place >= 0 && place < length && place < text.length ? text[place] : NONE;
        }
    }

    /** What is left when. All STONES of a CELLAR lose the same RINGS, so the RINGS lost tell all. */
    private static final class Forecast {
        private final Store store;

        Forecast(Store store) {
            this.store = store;
        }

        private int lostRings(int c, int straw, int m, int d) {
            int kind = store.cellars.get(c, KIND);
            int lost = 0;
            for (int i = 0; i < m; i++) {
                lost += d * Kinds.costOfDoor(kind) + Kinds.meltBy(kind, store.week + i, straw);
            }
            return lost;
        }

        int leftBehind(int c, int m, int d, int what) {
            int lost = lostRings(c, store.cellars.get(c, STRAW), m, d);
            if (what == 0) {
                return store.stonesFrom(c, lost + 1);
            }
            if (what == 4) {
                return Math.max(0, store.greatest(c) - lost);
            }
            return store.stonesFrom(c, lost + 3 * what - 2) - store.stonesFrom(c, lost + 3 * what + 1);
        }

        int weeksKept(int c, int r) {
            int greatest = store.greatest(c);
            for (int m = 0; m <= 99; m++) {
                if (greatest < r) {
                    return m;
                }
                greatest -= store.meltIn(c, store.week + m);
            }
            return NONE;
        }

        int leastStraw(int c, int r, int m) {
            for (int straw = 0; straw <= STRAW_MOST; straw++) {
                if (store.greatest(c) - lostRings(c, straw, m, 0) >= r) {
                    return straw;
                }
            }
            return NONE;
        }

        /** How many STONES of r RINGS or more fewer there are, if the DOOR is opened now. */
        int lostByDoor(int c, int r) {
            return store.stonesFrom(c, r) - store.stonesFrom(c, r + store.doorCost(c));
        }

        int cheapestDoor(int r) {
            int best = NONE;
            for (int c = 0; c < store.cellars.rows; c++) {
                if (store.stonesFrom(c, r) > 0 && (best == NONE || lostByDoor(c, r) < lostByDoor(best, r))) {
                    best = c;
                }
            }
            return best;
        }

        int leftBySeed(int seed, int n) {
            int left = 0;
            for (int c = 0; c < store.cellars.rows; c++) {
                left += store.stonesFrom(c, 1 + lostBySeed(c, seed, n));
            }
            return left;
        }

        private int lostBySeed(int c, int seed, int n) {
            long x = seed;
            int lost = 0;
            for (int i = 0; i < n; i++) {
                x = (x * 1103515245L + 12345L) % 2147483648L;
                if (x / 65536 % 5 == c) {
                    lost += store.doorCost(c);
                }
                lost += store.meltIn(c, store.week + i);
            }
            return lost;
        }
    }

    /** THROWS at CLOUDS that only are thought of. */
    private static final class Battle {
        // one STONE weighs more than all RINGS together can, so the least price has the fewest STONES first
        static final int STONE_PRICE = 1000;
        private static final int NO_PRICE = 1000000;

        private final Store store;
        private final int[] prices = new int[NEED_MOST + 1];
        // what each SLINGER would HIT each CLOUD in all, and what each CLOUD NEEDS yet in the way that is tried
        private final int[] hitsOf = new int[SLINGERS_MOST * CLOUDS_MOST];
        private final int[] open = new int[CLOUDS_MOST];
        private final int[] way = new int[SLINGERS_MOST];
        private final int[] bestWay = new int[SLINGERS_MOST];

        Battle(Store store) {
            this.store = store;
        }

        int reachingRings(int s, int k) {
            int bits = 0;
            for (int r = 1; r <= RINGS_MOST; r++) {
                if (store.reaches(s, k, r, store.wind)) {
                    bits |= 1 << r;
                }
            }
            return bits;
        }

        /** STONES times STONE_PRICE and RINGS of the best way; NONE. */
        int priceToTurn(int k, int s, int c) {
            int needed = Math.min(NEED_MOST, store.needsYet(k));
            if (needed <= 0) {
                return 0;
            }
            for (int h = 0; h < prices.length; h++) {
                prices[h] = h == 0 ? 0 : NO_PRICE;
            }
            for (int r = 1; r <= RINGS_MOST; r++) {
                int hits = store.hitsAt(s, k, r, store.wind);
                // each makes a HIT at least: more STONES than HITS needed are never of use
                int copies = hits <= 0 ? 0 : Math.min(needed, store.stonesOf(c, r));
                for (int i = 0; i < copies; i++) {
                    offerStone(hits, STONE_PRICE + r);
                }
            }
            int price = needed < prices.length ? prices[needed] : NO_PRICE;
            return price < NO_PRICE ? price : NONE;
        }

        private void offerStone(int hits, int price) {
            for (int h = prices.length - 1; h >= 1; h--) {
                int rest = Math.max(0, h - hits);
                if (rest < prices.length && prices[rest] + price < prices[h]) {
                    prices[h] = prices[rest] + price;
                }
            }
        }

        /** How many are TURNED in the best way; the first such way is kept. */
        int mostTurned(int r) {
            startWays(r);
            int mostThinkable = turnedByAllAtEach();
            int best = NONE;
            boolean more = true;
            for (int i = 0; i < 1000000 && more && best < mostThinkable; i++) {
                int turned = turnedNow();
                if (turned > best) {
                    best = turned;
                    System.arraycopy(way, 0, bestWay, 0, Math.min(way.length, bestWay.length));
                }
                more = nextWay();
            }
            return best;
        }

        int givenCloud(int s) {
            return s >= 0 && s < bestWay.length ? bestWay[s] : NONE;
        }

        private void startWays(int r) {
            for (int k = 0; k < open.length; k++) {
                open[k] = store.needsYet(k);
            }
            for (int s = 0; s < store.slingers.rows && s < way.length; s++) {
                for (int k = 0; k < store.clouds.rows; k++) {
                    keepHits(s, k, hitsUntilHere(s, k, r));
                }
                way[s] = 0;
                close(0, hitsKept(s, 0));
            }
        }

        /** A CLOUD is at each FAR from its own down to 1 for one HOUR, unless it is TURNED first, which is all that counts. */
        private int hitsUntilHere(int s, int k, int r) {
            return store.throwHits(s, r) * Math.min(store.clouds.get(k, FAR), store.throwFar(s, r, store.wind));
        }

        /** No way turns more than there would be if each CLOUD had all SLINGERS. */
        private int turnedByAllAtEach() {
            int turned = 0;
            for (int k = 0; k < store.clouds.rows; k++) {
                int needed = store.needsYet(k);
                for (int s = 0; s < store.slingers.rows; s++) {
                    needed -= hitsKept(s, k);
                }
                if (needed <= 0) {
                    turned++;
                }
            }
            return turned;
        }

        private int turnedNow() {
            int turned = 0;
            for (int k = 0; k < store.clouds.rows && k < open.length; k++) {
                if (open[k] <= 0) {
                    turned++;
                }
            }
            return turned;
        }

        /** The last SLINGER's CLOUD rises first, so that the ways come in order, the first SLINGER's CLOUD ahead. */
        private boolean nextWay() {
            for (int s = Math.min(store.slingers.rows, way.length) - 1; s >= 0; s--) {
                int before = way[s];
                boolean rises = before + 1 < store.clouds.rows;
                way[s] = rises ? before + 1 : 0;
                close(before, -hitsKept(s, before));
                close(way[s], hitsKept(s, way[s]));
                if (rises) {
                    return true;
                }
            }
            return false;
        }

        private void close(int k, int hits) {
            if (k >= 0 && k < open.length) {
                open[k] -= hits;
            }
        }

        private int hitsKept(int s, int k) {
            int at = s * CLOUDS_MOST + k;
            return at >= 0 && at < hitsOf.length ? hitsOf[at] : 0;
        }

        private void keepHits(int s, int k, int hits) {
            int at = s * CLOUDS_MOST + k;
            if (at >= 0 && at < hitsOf.length) {
                hitsOf[at] = hits;
            }
        }

        int pairsThatRest(int a, int b, int k, int r) {
            int needed = store.needsYet(k);
            int hitsOfA = store.hitsAt(a, k, r, store.wind);
            int hitsOfB = store.hitsAt(b, k, r, store.wind);
            int bits = 0;
            for (int pair = 0; pair < 4; pair++) {
                int i = pair & 1;
                int j = pair >> 1;
                if (rests(needed - j * hitsOfB, hitsOfA, i) && rests(needed - i * hitsOfA, hitsOfB, j)) {
                    bits |= 1 << pair;
                }
            }
            return bits;
        }

        /** Whether one would get no more by doing otherwise, where so many HITS are needed without one's own. */
        private static boolean rests(int needed, int hits, int does) {
            int other = 1 - does;
            return worth(needed - does * hits, does) >= worth(needed - other * hits, other);
        }

        private static int worth(int needed, int does) {
            return -Math.max(0, needed) - 2 * does;
        }
    }

    /** Which DOORS and which KINDS fit what was told. */
    private static final class Sleuth {
        private final Store store;
        // what each KIND that is thought of does, as one number; NONE: it is not thought of
        private final int[] signs = new int[KINDS];

        Sleuth(Store store) {
            this.store = store;
        }

        int doorsBy(int i) {
            int c = store.ringsTold.get(i, OWNER);
            int melted = store.ringsTold.get(i, TOLD_BEFORE) - store.meltIn(c, store.ringsTold.get(i, TOLD_WEEK));
            int bits = 0;
            for (int d = 0; d <= DOORS_MOST; d++) {
                if (Math.max(0, melted - d * store.doorCost(c)) == store.ringsTold.get(i, TOLD_BEHIND)) {
                    bits |= 1 << d;
                }
            }
            return bits;
        }

        int doorsByAll(int c) {
            int bits = (1 << (DOORS_MOST + 1)) - 1;
            for (int i = 0; i < store.ringsTold.rows; i++) {
                if (store.ringsTold.get(i, OWNER) == c) {
                    bits &= doorsBy(i);
                }
            }
            return bits;
        }

        int kindsOfCellar(int c) {
            int bits = 0;
            for (int kind = 0; kind < KINDS; kind++) {
                if (fitsNotes(c, kind)) {
                    bits |= 1 << kind;
                }
            }
            return bits;
        }

        private boolean fitsNotes(int c, int kind) {
            Sheet notes = store.notes;
            for (int i = 0; i < notes.rows; i++) {
                int melt = Kinds.meltBy(kind, notes.get(i, NOTE_WEEK), notes.get(i, NOTE_STRAW));
                boolean fits = melt == notes.get(i, NOTE_MELTED) && Kinds.costOfDoor(kind) == notes.get(i, NOTE_COST);
                if (notes.get(i, OWNER) == c && !fits) {
                    return false;
                }
            }
            return true;
        }

        int weekToWatch(int c) {
            int kinds = kindsOfCellar(c);
            int best = NONE;
            int fewest = KINDS + 1;
            for (int w = 0; w <= 11 && kinds != 0; w++) {
                for (int kind = 0; kind < signs.length; kind++) {
                    int melt = Kinds.meltBy(kind, w, store.cellars.get(c, STRAW));
                    signs[kind] = isIn(kinds, kind) ? 100 * melt + Kinds.costOfDoor(kind) : NONE;
                }
                int alike = mostAlike();
                if (alike < fewest) {
                    fewest = alike;
                    best = w;
                }
            }
            return best;
        }

        int kindsOfSlinger(int s) {
            int bits = 0;
            for (int kind = 0; kind < KINDS; kind++) {
                if (fitsThrown(s, kind)) {
                    bits |= 1 << kind;
                }
            }
            return bits;
        }

        private boolean fitsThrown(int s, int kind) {
            Sheet thrown = store.thrown;
            int arm = store.slingers.get(s, ARM);
            for (int i = 0; i < thrown.rows; i++) {
                int r = thrown.get(i, THROWN_RINGS);
                int far = Kinds.farBy(kind, arm, r, thrown.get(i, THROWN_WIND));
                boolean fits = far == thrown.get(i, THROWN_FAR) && Kinds.hitsBy(kind, r) == thrown.get(i, THROWN_HITS);
                if (thrown.get(i, OWNER) == s && !fits) {
                    return false;
                }
            }
            return true;
        }

        int throwToAsk(int s) {
            int kinds = kindsOfSlinger(s);
            int best = NONE;
            int fewest = KINDS + 1;
            for (int question = 10; question <= 99 && kinds != 0; question++) {
                int r = question / 10;
                int v = question % 10;
                for (int kind = 0; kind < signs.length; kind++) {
                    int far = Kinds.farBy(kind, store.slingers.get(s, ARM), r, v);
                    signs[kind] = isIn(kinds, kind) ? 100 * far + Kinds.hitsBy(kind, r) : NONE;
                }
                int alike = mostAlike();
                if (alike < fewest) {
                    fewest = alike;
                    best = question;
                }
            }
            return best;
        }

        private static boolean isIn(int kinds, int kind) {
            return (kinds >> kind & 1) == 1;
        }

        private int mostAlike() {
            int most = 0;
            for (int a = 0; a < signs.length; a++) {
                int alike = 0;
                for (int b = 0; b < signs.length; b++) {
                    if (signs[a] != NONE && signs[a] == signs[b]) {
                        alike++;
                    }
                }
                most = Math.max(most, alike);
            }
            return most;
        }
    }
}
