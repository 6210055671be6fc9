/**
 * Walkers on a ground with walls, each of whom goes by a gait and takes on, where he meets somebody, the other's.
 * What each call does is said in ../shared/DOC.md; README.md tells how this file is laid out.
 */
public final class AsTheLastHeMet {
    public static final int NONE = -1;

    private static final int SIDE = 7;
    private static final int PLACES = 49;
    private static final int LAST_PLACE = 48;
    private static final int WAYS = 4;
    private static final int MOST_GAITS = 8;
    private static final int MOST_STEPS = 8;
    private static final int LAST_STEP = 3;
    private static final int LAST_AT_WALL = 2;
    private static final int MOST_WALKERS = 6;
    private static final int LAST_A = 9;

    private static final int WALKER = 0;
    private static final int KEEPER = 1;
    private static final int SHY = 2;
    private static final int TAKER = 3;
    private static final int MIRROR = 4;
    private static final int LOUD = 5;
    private static final int FICKLE = 6;
    private static final int LAST_KIND = 6;

    private static final int SHELVES = 8;
    private static final int SORTS = 4;
    private static final int LONGEST_ROW = 160;
    /** What holds() tells of a row of sort 0; all below it are numbers of walkers. */
    private static final int FIRST_ROW = 100;

    private static final int LAST_BEAT = 400;
    private static final int LAST_BEAT_OF_HIRE = 100;
    private static final int MOST_TRUE_BEATS = 99;
    private static final int MOST_SIGHTS = 10;
    private static final int MOST_DRAWS = 100;
    private static final int KEPT_BODIES = 20;

    private static final int NOBODY = -1;
    private static final int OTHER = -2;
    private static final int NOTHING = -3;
    private static final int BELOW = -4;
    private static final int BEYOND = -5;
    private static final int WRONG = -6;
    private static final int ROOM = -7;
    private static final int REFUSALS = 7;
    /** Stands before a refusal of a call whose answer may be NONE, or another number just below 0. */
    private static final int FAR = -10;

    private final Shelf[] shelves = new Shelf[SHELVES];
    private final Town now = new Town();
    private final Town thought = new Town();
    private final Town kept = new Town();
    private final Reader reader = new Reader();
    private final Acts acts = new Acts();
    private final int[] refusals = new int[REFUSALS + 1];
    /** How the first three walkers, and how the others, were behind each beat: ring() looks back at them. */
    private final long[] firstThree = new long[LAST_BEAT + 1];
    private final long[] others = new long[LAST_BEAT + 1];
    private boolean hasImage = false;
    private int latestFault = NONE;

    public AsTheLastHeMet() {
        for (int s = 0; s < shelves.length; s++) {
            shelves[s] = new Shelf();
        }
    }

    // ---- shelves and rows

    public int row(int s, int sort, int n) {
        Shelf shelf = shelfBy(s);
        if (shelf == null) {
            return refuse(NOBODY);
        }
        if (n < 0) {
            return refuse(BELOW);
        }
        if (sort < 0 || sort >= SORTS) {
            return refuse(WRONG);
        }
        if (n > LONGEST_ROW) {
            return refuse(ROOM);
        }
        shelf.beginRow(sort, n);
        return 1;
    }

    public int set(int s, int i, long v) {
        Shelf shelf = shelfBy(s);
        int why = whyNoRow(shelf);
        if (shelf == null || why != 0) {
            return refuse(why);
        }
        if (!shelf.reaches(i)) {
            return refuse(BEYOND);
        }
        shelf.put(i, v);
        return 1;
    }

    public int copy(int p, int q, int i, int j, int n) {
        Shelf from = shelfBy(p);
        Shelf to = shelfBy(q);
        if (from == null || to == null) {
            return refuse(NOBODY);
        }
        boolean rows = from.hasRow() && to.hasRow();
        if (from.hasWalker() || to.hasWalker() || rows && from.holding != to.holding) {
            return refuse(OTHER);
        }
        if (!rows) {
            return refuse(NOTHING);
        }
        if (n < 0) {
            return refuse(BELOW);
        }
        return to.takeOver(from, i, j, n) ? 1 : refuse(BEYOND);
    }

    public long element(int s, int i) {
        Shelf shelf = shelfBy(s);
        return shelf == null ? 0L : shelf.elementAt(i);
    }

    public int show(int s, int walker) {
        Shelf shelf = shelfBy(s);
        if (shelf == null || walker != NONE && !now.hasWalker(walker)) {
            return refuse(NOBODY);
        }
        shelf.hold(walker);
        return walker == NONE ? 0 : 1;
    }

    public int holds(int s) {
        Shelf shelf = shelfBy(s);
        return shelf == null ? NONE : shelf.holding;
    }

    public int says(int s, int kind) {
        Shelf shelf = shelfBy(s);
        if (shelf == null || !isUpTo(kind, LAST_KIND)) {
            return refuse(NOBODY);
        }
        if (shelf.hasRow()) {
            return refuse(OTHER);
        }
        if (!shelf.hasWalker()) {
            return refuse(NOTHING);
        }
        if (!Acts.isUnder(now.who(shelf.holding).kind, kind)) {
            return refuse(OTHER);
        }
        return now.said(shelf.holding, kind);
    }

    // ---- the streets

    public int gait(int s, int n, int wall) {
        Shelf shelf = shelfBy(s);
        int why = whyNoRow(shelf);
        if (shelf == null || why != 0) {
            return refuse(why);
        }
        if (n < 0) {
            return refuse(BELOW);
        }
        if (n > shelf.size) {
            return refuse(BEYOND);
        }
        if (n < 1 || n > MOST_STEPS || !isUpTo(wall, LAST_AT_WALL)) {
            return refuse(WRONG);
        }
        int steps = 0;
        for (int i = 0; i < n; i++) {
            int step = shelf.numberAt(i);
            if (!isUpTo(step, LAST_STEP)) {
                return refuse(WRONG);
            }
            steps = Gait.withStep(steps, i, step);
        }
        return now.hasRoomForGait() ? now.addGait(n, wall, steps) : refuse(ROOM);
    }

    public int gaitOf(int gait, int what) {
        Gait told = now.gaitBy(gait);
        if (!now.hasGait(gait) || what < -2 || what >= told.length) {
            return refuse(FAR + BEYOND);
        }
        if (what == NONE) {
            return told.length;
        }
        return what < 0 ? told.atWall : told.stepAt(what);
    }

    public int walker(int kind, int place, int way, int gait, int a) {
        if (!isUpTo(kind, LAST_KIND) || !now.hasGait(gait)) {
            return refuse(NOBODY);
        }
        if (!isUpTo(place, LAST_PLACE) || !isUpTo(way, WAYS - 1) || !isUpTo(a, LAST_A) || now.isWalled(place)) {
            return refuse(WRONG);
        }
        return now.hasRoomForWalker() ? now.addWalker(kind, place, way, gait, a) : refuse(ROOM);
    }

    public int walkerOf(int walker, int what) {
        if (!now.hasWalker(walker) || !isUpTo(what, 6)) {
            return refuse(BEYOND);
        }
        return now.who(walker).told(what);
    }

    public int wall(int place, boolean is) {
        if (!isUpTo(place, LAST_PLACE) || is && now.hasSomebodyAt(place)) {
            return refuse(WRONG);
        }
        if (now.isWalled(place) == is) {
            return 0;
        }
        now.putWall(place, is);
        return 1;
    }

    public int isWall(int place) {
        if (!isUpTo(place, LAST_PLACE)) {
            return refuse(BEYOND);
        }
        return now.isWalled(place) ? 1 : 0;
    }

    public int streets(int s) {
        Shelf shelf = shelfBy(s);
        int why = whyNoRow(shelf);
        if (shelf == null || why != 0) {
            return refuse(why);
        }
        reader.begin(shelf, now);
        int items = 1;
        while (items < LONGEST_ROW && reader.readItem()) {
            items++;
        }
        if (!reader.isWhole) {
            latestFault = reader.place;
            return refuse(WRONG);
        }
        now.becomeAs(reader.town);
        latestFault = NONE;
        return items;
    }

    public int fault() {
        return latestFault;
    }

    // ---- what comes of it, in thought

    public int at(int n, int walker, int what) {
        int why = whyNotTold(n, walker, what);
        if (why != 0) {
            return refuse(why);
        }
        think(n);
        return thought.who(walker).told(what + 1);
    }

    public int have(int n, int gait) {
        if (!now.hasGait(gait)) {
            return refuse(NOBODY);
        }
        if (!isUpTo(n, LAST_BEAT)) {
            return refuse(WRONG);
        }
        think(n);
        return thought.havers(gait);
    }

    public int survives(int n) {
        if (!isUpTo(n, LAST_BEAT)) {
            return refuse(WRONG);
        }
        think(n);
        int gaits = 0;
        for (int w = 0; w < thought.count; w++) {
            gaits |= 1 << thought.who(w).gait;
        }
        return gaits;
    }

    public int lost(int gait) {
        if (!now.hasGait(gait)) {
            return refuse(FAR + NOBODY);
        }
        think(0);
        for (int beat = 0; beat <= LAST_BEAT; beat++) {
            if (thought.havers(gait) == 0) {
                return beat;
            }
            thought.goBeat();
        }
        return NONE;
    }

    public int comes(int gait, int walker) {
        if (!now.hasGait(gait) || !now.hasWalker(walker)) {
            return refuse(FAR + NOBODY);
        }
        think(0);
        for (int beat = 0; beat <= LAST_BEAT; beat++) {
            if (thought.who(walker).gait == gait) {
                return beat;
            }
            thought.goBeat();
        }
        return NONE;
    }

    public int meet(int walker, int other) {
        if (!now.hasWalker(walker) || !now.hasWalker(other)) {
            return refuse(FAR + NOBODY);
        }
        if (walker == other) {
            return refuse(FAR + WRONG);
        }
        think(0);
        for (int beat = 1; beat <= LAST_BEAT; beat++) {
            thought.goBeat();
            if (thought.who(walker).place == thought.who(other).place) {
                return beat;
            }
        }
        return NONE;
    }

    public int meetings(int n) {
        if (!isUpTo(n, LAST_BEAT)) {
            return refuse(WRONG);
        }
        return think(n);
    }

    public int ring(int what) {
        if (!isUpTo(what, 1)) {
            return refuse(BEYOND);
        }
        think(0);
        for (int beat = 0; beat <= LAST_BEAT && beat < firstThree.length && beat < others.length; beat++) {
            firstThree[beat] = thought.packed(0);
            others[beat] = thought.packed(MOST_WALKERS / 2);
            int before = sameBefore(beat);
            if (before != NONE) {
                return what == 0 ? before : beat - before;
            }
            thought.goBeat();
        }
        return refuse(WRONG);
    }

    public int alone(int n, int walker, int what) {
        int why = whyNotTold(n, walker, what);
        if (why != 0) {
            return refuse(why);
        }
        think(0);
        thought.keepOnly(walker);
        thought.goBeats(n);
        return thought.who(0).told(what + 1);
    }

    public int alike() {
        think(0);
        for (int beat = 0; beat <= LAST_BEAT; beat++) {
            if (thought.haveAll(thought.who(0).gait)) {
                return beat;
            }
            thought.goBeat();
        }
        return NONE;
    }

    public int hire(int gait, int what) {
        if (!now.hasGait(gait)) {
            return refuse(FAR + NOBODY);
        }
        if (!isUpTo(what, 1)) {
            return refuse(FAR + BEYOND);
        }
        if (!now.hasRoomForWalker()) {
            return refuse(FAR + ROOM);
        }
        if (now.isBarred(gait)) {
            return NONE;
        }
        think(0);
        int best = NONE;
        int soonest = LAST_BEAT_OF_HIRE + 1;
        for (int begin = 0; begin < PLACES * WAYS && soonest > 0; begin++) {
            if (now.isFree(begin / WAYS)) {
                int beat = beatOfHire(gait, begin, soonest);
                if (beat < soonest) {
                    soonest = beat;
                    best = begin;
                }
            }
        }
        return best == NONE || what == 0 ? best : soonest;
    }

    public int fit(int s, int n) {
        Shelf sights = shelfBy(s);
        int why = whyNoRow(sights);
        if (sights == null || why != 0) {
            return refuse(why);
        }
        int whyNot = whyNoSights(sights, n);
        if (whyNot != 0) {
            return refuse(whyNot);
        }
        think(0);
        return seen(sights, n);
    }

    public int began(int s, int n, int walker) {
        Shelf sights = shelfBy(s);
        if (sights == null || !now.hasWalker(walker)) {
            return refuse(NOBODY);
        }
        int why = whyNoRow(sights);
        if (why != 0) {
            return refuse(why);
        }
        int whyNot = whyNoSights(sights, n);
        if (whyNot != 0) {
            return refuse(whyNot);
        }
        int gaits = 0;
        for (int g = 0; g < now.gaitCount; g++) {
            think(0);
            thought.beginOtherwise(walker, g);
            if (seen(sights, n) == n) {
                gaits |= 1 << g;
            }
        }
        return gaits;
    }

    public int thief(int gait, int n) {
        if (!now.hasGait(gait)) {
            return refuse(NOBODY);
        }
        int thief = now.firstWith(gait);
        if (thief == NONE) {
            return refuse(BEYOND);
        }
        if (!isUpTo(n, LAST_BEAT)) {
            return refuse(WRONG);
        }
        think(n);
        return thought.who(thief).place;
    }

    // ---- in truth

    public int beat(int n) {
        if (n < 1 || n > MOST_TRUE_BEATS) {
            return refuse(WRONG);
        }
        return now.goBeats(n);
    }

    public int strangers(int n) {
        if (now.gaitCount == 0) {
            return refuse(BEYOND);
        }
        if (n < 1 || n > MOST_WALKERS) {
            return refuse(WRONG);
        }
        int came = 0;
        for (int i = 0; i < n; i++) {
            if (now.hasRoomForWalker() && now.drawStranger()) {
                came++;
            }
        }
        return came;
    }

    public int goes() {
        if (now.count == 0) {
            return refuse(WRONG);
        }
        now.count--;
        emptyShelvesOfTheGone();
        return now.count;
    }

    public int teach(int walker, int gait) {
        if (!now.hasWalker(walker) || !now.hasGait(gait)) {
            return refuse(NOBODY);
        }
        Walker pupil = now.who(walker);
        int before = pupil.gait;
        pupil.gait = gait;
        pupil.done = 0;
        return before;
    }

    public int seed(int v) {
        int before = now.seed;
        now.seed = v;
        return before;
    }

    public int act(int walker, int act, int x) {
        acts.forget();
        if (!now.hasWalker(walker) || !isUpTo(act, Acts.TAKES)) {
            return 0;
        }
        Walker actor = now.who(walker);
        return acts.perform(actor.kind, walker, actor.a, act, x);
    }

    public int trace(int i) {
        return acts.bodyAt(i);
    }

    // ---- the image and the counts

    public int image() {
        kept.becomeAs(now);
        hasImage = true;
        return now.count;
    }

    public int restore() {
        if (!hasImage) {
            return refuse(WRONG);
        }
        now.becomeAs(kept);
        emptyShelvesOfTheGone();
        return now.count;
    }

    public int status(int what) {
        int refusal = what - 10;
        if (refusal >= 1 && refusal < refusals.length) {
            return refusals[refusal];
        }
        switch (what) {
            case 0: return now.gaitCount;
            case 1: return now.count;
            case 2: return Long.bitCount(now.walls);
            case 3: return now.beats;
            case 4: return now.met;
            case 5: return now.seed;
            case 6: return acts.ran;
            default: return NONE;
        }
    }

    // ---- what the calls share

    private static boolean isUpTo(int v, int last) {
        return v >= 0 && v <= last;
    }

    private int refuse(int answer) {
        int refusal = answer <= FAR ? FAR - answer : -answer;
        if (refusal >= 0 && refusal < refusals.length) {
            refusals[refusal]++;
        }
        return answer;
    }

    private Shelf shelfBy(int s) {
        return s >= 0 && s < shelves.length ? shelves[s] : null;
    }

    /** The refusal of a shelf where a row is wanted; 0 if it holds one. */
    private static int whyNoRow(Shelf shelf) {
        if (shelf == null) {
            return NOBODY;
        }
        if (shelf.hasWalker()) {
            return OTHER;
        }
        return shelf.hasRow() ? 0 : NOTHING;
    }

    /** The refusal of what a walker is behind n beats; 0 if it can be told. */
    private int whyNotTold(int n, int walker, int what) {
        if (!now.hasWalker(walker)) {
            return NOBODY;
        }
        if (!isUpTo(what, 4)) {
            return BEYOND;
        }
        return isUpTo(n, LAST_BEAT) ? 0 : WRONG;
    }

    /** The refusal of the first n threes of a row; 0 if they are sights. */
    private int whyNoSights(Shelf sights, int n) {
        if (n < 0) {
            return BELOW;
        }
        if (n > sights.size / 3) {
            return BEYOND;
        }
        if (n > MOST_SIGHTS) {
            return WRONG;
        }
        for (int i = 0; i < n; i++) {
            if (!isUpTo(sights.numberAt(3 * i), LAST_BEAT)
                    || !isUpTo(sights.numberAt(3 * i + 1), LAST_PLACE)
                    || !now.hasGait(sights.numberAt(3 * i + 2))) {
                return WRONG;
            }
        }
        return 0;
    }

    /** How many of the first n sights are so, the walkers in thought going on from how they are. */
    private int seen(Shelf sights, int n) {
        int last = 0;
        for (int i = 0; i < n; i++) {
            last = Math.max(last, sights.numberAt(3 * i));
        }
        int so = 0;
        for (int beat = 0; beat <= last; beat++) {
            for (int i = 0; i < n; i++) {
                if (sights.numberAt(3 * i) == beat
                        && thought.hasSomebodySo(sights.numberAt(3 * i + 1), sights.numberAt(3 * i + 2))) {
                    so++;
                }
            }
            thought.goBeat();
        }
        return so;
    }

    /** Lets n beats pass in thought, from how all is now: their meetings. */
    private int think(int n) {
        thought.becomeAs(now);
        return thought.goBeats(n);
    }

    /** The beat before this one behind which all was as behind this one; NONE if there is none. */
    private int sameBefore(int beat) {
        if (beat < 0 || beat >= firstThree.length || beat >= others.length) {
            return NONE;
        }
        for (int b = 0; b < beat; b++) {
            if (firstThree[b] == firstThree[beat] && others[b] == others[beat]) {
                return b;
            }
        }
        return NONE;
    }

    /** The beat below a bound behind which all have a gait, if a keeper with it begins so; else the bound. */
    private int beatOfHire(int gait, int begin, int bound) {
        thought.takeWalkersOf(now);
        thought.addWalker(KEEPER, begin / WAYS, begin % WAYS, gait, 0);
        for (int beat = 0; beat < bound; beat++) {
            if (thought.haveAll(gait)) {
                return beat;
            }
            thought.goBeat();
        }
        return bound;
    }

    private void emptyShelvesOfTheGone() {
        for (int s = 0; s < shelves.length; s++) {
            Shelf shelf = shelves[s];
            if (shelf != null && shelf.hasWalker() && !now.hasWalker(shelf.holding)) {
                shelf.hold(NONE);
            }
        }
    }

    /** A shelf: nothing, the number of a walker, or a row. */
    private static final class Shelf {
        int holding = NONE;
        int size = 0;
        private final long[] elements = new long[LONGEST_ROW];

        boolean hasRow() {
            return holding >= FIRST_ROW;
        }

        boolean hasWalker() {
            return holding >= 0 && holding < FIRST_ROW;
        }

        /** A walker by his number, or NONE. */
        void hold(int walker) {
            holding = walker;
            size = 0;
        }

        void beginRow(int sort, int n) {
            holding = FIRST_ROW + sort;
            size = n;
            for (int i = 0; i < n && i < elements.length; i++) {
                elements[i] = 0L;
            }
        }

        boolean reaches(int i) {
            return i >= 0 && i < size && i < elements.length;
        }

        long elementAt(int i) {
            return reaches(i) ? elements[i] : 0L;
        }

        int numberAt(int i) {
            return (int) elementAt(i);
        }

        void put(int i, long v) {
            if (reaches(i)) {
                elements[i] = cutToSort(v);
            }
        }

        private long cutToSort(long v) {
            switch (holding - FIRST_ROW) {
                case 0: return (byte) v;
                case 1: return (short) v;
                case 2: return (int) v;
                default: return v;
            }
        }

        private boolean spans(int i, int n) {
            return i >= 0 && n >= 0 && size <= elements.length && n <= size - i;
        }

        /** Takes n elements over; false, and nothing is taken, if one isn't there. */
        boolean takeOver(Shelf from, int i, int j, int n) {
            if (!from.spans(i, n) || !spans(j, n)) {
                return false;
            }
            System.arraycopy(from.elements, i, elements, j, n);
            return true;
        }
    }

    /** A gait: its steps, two bits each (so that a gait is copied without a row), and what it does at a wall. */
    private static final class Gait {
        private static final int ON = 0;
        private static final int STAND = 3;

        int length = 0;
        int atWall = 0;
        int steps = 0;

        static int withStep(int steps, int i, int step) {
            return steps | (step << 2 * i);
        }

        int stepAt(int i) {
            return (steps >> 2 * i) & 3;
        }

        /** The quarters to the right of a step that doesn't lead on. */
        int quartersOf(int step) {
            if (step == STAND) {
                return 0;
            }
            // At a wall 0, 1, 2 are what the steps 1, 2 and turning back are.
            int turn = step == ON ? atWall : step - 1;
            return turn == 0 ? WAYS - 1 : turn;
        }

        int next(int done) {
            return done + 1 < length ? done + 1 : 0;
        }

        void becomeAs(Gait other) {
            length = other.length;
            atWall = other.atWall;
            steps = other.steps;
        }
    }

    /** A walker, and how he was ahead of the meeting, for those who take from him. */
    private static final class Walker {
        int kind = WALKER;
        int place = 0;
        int way = 0;
        int gait = 0;
        int done = 0;
        int turned = 0;
        int a = 0;
        boolean meets = false;
        private int gaitAhead = 0;
        private int doneAhead = 0;
        private int wayAhead = 0;
        private int turnedAhead = 0;

        void becomeAs(Walker other) {
            kind = other.kind;
            place = other.place;
            way = other.way;
            gait = other.gait;
            done = other.done;
            turned = other.turned;
            a = other.a;
        }

        /** Turns by quarters to the right; one who is turned, to the left. */
        void turn(int quarters) {
            way = (way + (turned == 1 ? WAYS - quarters : quarters)) % WAYS;
        }

        void rememberHow() {
            gaitAhead = gait;
            doneAhead = done;
            wayAhead = way;
            turnedAhead = turned;
        }

        boolean gives() {
            return kind == WALKER || kind == KEEPER || kind == LOUD;
        }

        boolean wouldTake(int other) {
            if (kind == FICKLE) {
                return other > gait;
            }
            return kind == WALKER || kind == TAKER || kind == MIRROR;
        }

        void takeGaitOf(Walker other) {
            gait = other.gaitAhead;
            done = other.doneAhead;
            turned = kind == MIRROR ? 1 - other.turnedAhead : other.turnedAhead;
        }

        boolean isBeside(Walker other) {
            int rows = Math.abs(place / SIDE - other.place / SIDE);
            int columns = Math.abs(place % SIDE - other.place % SIDE);
            return rows + columns == 1;
        }

        /** All that beats change, as one number below 2 to the 15th. */
        int packed() {
            return (((place * WAYS + way) * MOST_GAITS + gait) * MOST_STEPS + done) * 2 + turned;
        }

        int told(int what) {
            switch (what) {
                case 0: return kind;
                case 1: return place;
                case 2: return way;
                case 3: return gait;
                case 4: return done;
                case 5: return turned;
                default: return a;
            }
        }
    }

    /** Walls, gaits, walkers and what is counted of them: as they are, in thought, in the image, or as a text tells. */
    private static final class Town {
        /** A bit for each place, so that a town is copied without a row. */
        long walls = 0L;
        int gaitCount = 0;
        int count = 0;
        int beats = 0;
        int met = 0;
        int seed = 1;
        private final Gait[] gaits = new Gait[MOST_GAITS];
        private final Walker[] crowd = new Walker[MOST_WALKERS];
        /** Stand in for numbers that nobody has, so that no caller is handed a null. */
        private final Gait noGait = new Gait();
        private final Walker nobody = new Walker();

        Town() {
            for (int g = 0; g < gaits.length; g++) {
                gaits[g] = new Gait();
            }
            for (int w = 0; w < crowd.length; w++) {
                crowd[w] = new Walker();
            }
        }

        void becomeAs(Town other) {
            walls = other.walls;
            gaitCount = other.gaitCount;
            for (int g = 0; g < gaitCount; g++) {
                gaitBy(g).becomeAs(other.gaitBy(g));
            }
            takeWalkersOf(other);
            beats = other.beats;
            met = other.met;
            seed = other.seed;
        }

        void takeWalkersOf(Town other) {
            count = other.count;
            for (int w = 0; w < count; w++) {
                who(w).becomeAs(other.who(w));
            }
        }

        void keepOnly(int walker) {
            who(0).becomeAs(who(walker));
            count = 1;
        }

        boolean hasGait(int gait) {
            return gait >= 0 && gait < gaitCount;
        }

        boolean hasWalker(int walker) {
            return walker >= 0 && walker < count;
        }

        boolean hasRoomForGait() {
            return gaitCount < MOST_GAITS;
        }

        boolean hasRoomForWalker() {
            return count < MOST_WALKERS;
        }

        Gait gaitBy(int number) {
            Gait one = number >= 0 && number < gaits.length ? gaits[number] : null;
            return one == null ? noGait : one;
        }

        Walker who(int number) {
            Walker one = number >= 0 && number < crowd.length ? crowd[number] : null;
            return one == null ? nobody : one;
        }

        int addGait(int length, int atWall, int steps) {
            Gait one = gaitBy(gaitCount);
            one.length = length;
            one.atWall = atWall;
            one.steps = steps;
            gaitCount++;
            return gaitCount - 1;
        }

        int addWalker(int kind, int place, int way, int gait, int a) {
            Walker one = who(count);
            one.kind = kind;
            one.place = place;
            one.way = way;
            one.gait = gait;
            one.done = 0;
            one.turned = 0;
            one.a = a;
            count++;
            return count - 1;
        }

        /** Another gait for a walker in thought, as far on in it as he is in his. */
        void beginOtherwise(int walker, int gait) {
            Walker one = who(walker);
            int length = gaitBy(gait).length;
            one.gait = gait;
            one.done = length > 0 ? one.done % length : 0;
        }

        boolean isWalled(int place) {
            return (walls >>> place & 1L) == 1L;
        }

        void putWall(int place, boolean is) {
            long bit = 1L << place;
            walls = is ? walls | bit : walls & ~bit;
        }

        boolean hasSomebodyAt(int place) {
            for (int w = 0; w < count; w++) {
                if (who(w).place == place) {
                    return true;
                }
            }
            return false;
        }

        boolean hasSomebodySo(int place, int gait) {
            for (int w = 0; w < count; w++) {
                if (who(w).place == place && who(w).gait == gait) {
                    return true;
                }
            }
            return false;
        }

        boolean isFree(int place) {
            return !isWalled(place) && !hasSomebodyAt(place);
        }

        int havers(int gait) {
            int walkers = 0;
            for (int w = 0; w < count; w++) {
                if (who(w).gait == gait) {
                    walkers |= 1 << w;
                }
            }
            return walkers;
        }

        boolean haveAll(int gait) {
            for (int w = 0; w < count; w++) {
                if (who(w).gait != gait) {
                    return false;
                }
            }
            return true;
        }

        int firstWith(int gait) {
            for (int w = 0; w < count; w++) {
                if (who(w).gait == gait) {
                    return w;
                }
            }
            return NONE;
        }

        /** Whether somebody never comes to a gait: some never take, and a fickle one's gait only ever rises. */
        boolean isBarred(int gait) {
            for (int w = 0; w < count; w++) {
                if (who(w).gait != gait && !who(w).wouldTake(gait)) {
                    return true;
                }
            }
            return false;
        }

        /** How three walkers are, from one on, as one number. */
        long packed(int from) {
            long all = 0L;
            for (int w = from; w < from + MOST_WALKERS / 2; w++) {
                all = all << 15 | (w < count ? who(w).packed() : 0);
            }
            return all;
        }

        int said(int walker, int kind) {
            Walker one = who(walker);
            switch (kind) {
                case KEEPER: return Integer.bitCount(havers(one.gait)) - 1;
                case SHY: return countOthers(walker, false);
                case TAKER: return one.done;
                case MIRROR: return one.turned;
                case LOUD: return countOthers(walker, true);
                case FICKLE: return gaitCount - 1 - one.gait;
                default: return one.gait;
            }
        }

        /** How many others are at a walker's place, or beside it. */
        private int countOthers(int walker, boolean beside) {
            Walker one = who(walker);
            int many = 0;
            for (int w = 0; w < count; w++) {
                Walker other = who(w);
                if (w != walker && (beside ? one.isBeside(other) : one.place == other.place)) {
                    many++;
                }
            }
            return many;
        }

        /** Lets n beats pass, and counts them: their meetings. */
        int goBeats(int n) {
            int meetings = 0;
            for (int beat = 0; beat < n; beat++) {
                meetings += goBeat();
            }
            beats += n;
            met += meetings;
            return meetings;
        }

        /** All that one beat does: its meetings. */
        int goBeat() {
            for (int w = 0; w < count; w++) {
                doStep(who(w));
                who(w).rememberHow();
            }
            int meetings = 0;
            for (int w = 0; w < count; w++) {
                int behind = nextThere(w);
                meetAt(who(w), behind);
                // Only the last one at a place has one of a lower number behind him.
                if (behind != NONE && behind < w) {
                    meetings++;
                }
            }
            for (int w = 0; w < count; w++) {
                if (!who(w).meets) {
                    hearLoud(who(w));
                }
            }
            return meetings;
        }

        private void doStep(Walker one) {
            Gait gait = gaitBy(one.gait);
            int step = gait.stepAt(one.done);
            int place = step == Gait.ON ? placeThatWay(one.place, one.way) : NONE;
            if (place != NONE && !isWalled(place)) {
                one.place = place;
            } else {
                one.turn(gait.quartersOf(step));
            }
            one.done = gait.next(one.done);
        }

        private static int placeThatWay(int place, int way) {
            int column = place % SIDE;
            switch (way) {
                case 0: return place >= SIDE ? place - SIDE : NONE;
                case 1: return column < SIDE - 1 ? place + 1 : NONE;
                case 2: return place < PLACES - SIDE ? place + SIDE : NONE;
                default: return column > 0 ? place - 1 : NONE;
            }
        }

        /** The next one by numbers at a walker's place, the first behind the last; NONE if nobody else is there. */
        private int nextThere(int walker) {
            int place = who(walker).place;
            for (int on = 1; on < count; on++) {
                int other = walker + on < count ? walker + on : walker + on - count;
                if (who(other).place == place) {
                    return other;
                }
            }
            return NONE;
        }

        private void meetAt(Walker one, int behind) {
            Walker other = who(behind);
            one.meets = behind != NONE;
            if (one.meets && other.gives() && one.wouldTake(other.gaitAhead)) {
                one.takeGaitOf(other);
                one.way = other.wayAhead;
            }
        }

        /** One who meets nobody takes from the first loud one beside him; no loud one ever changes in a beat. */
        private void hearLoud(Walker one) {
            for (int w = 0; w < count; w++) {
                Walker other = who(w);
                if (other.kind == LOUD && one.isBeside(other) && one.wouldTake(other.gait)) {
                    one.takeGaitOf(other);
                    return;
                }
            }
        }

        /** Whether a stranger came: he doesn't, if no draw finds him a free place. */
        boolean drawStranger() {
            for (int i = 0; i < MOST_DRAWS; i++) {
                int place = draw(PLACES);
                if (isFree(place)) {
                    int way = draw(WAYS);
                    addWalker(WALKER, place, way, draw(gaitCount), 0);
                    return true;
                }
            }
            return false;
        }

        private int draw(int below) {
            seed = seed * 1103515245 + 12345;
            return below > 0 ? (seed >>> 16) % below : 0;
        }
    }

    /** Reads streets from a row. Where nothing more can be read and the text isn't whole, its place is the fault. */
    private static final class Reader {
        private static final int GAIT = 0;
        private static final int WALL = 1;
        private static final int OPEN = 2;
        private static final int WALKERS = 3;
        private static final int BEATS = 4;
        private static final int WORDS = 5;

        int place = 0;
        boolean isWhole = false;
        private int size = 0;
        private int numberPlace = 0;
        private final int[] letters = new int[LONGEST_ROW];
        /** As things are told so far: the text is told as a whole, or not at all. */
        final Town town = new Town();

        void begin(Shelf text, Town now) {
            town.becomeAs(now);
            place = 0;
            isWhole = false;
            size = text.size;
            for (int i = 0; i < size && i < letters.length; i++) {
                letters[i] = text.numberAt(i);
            }
        }

        /** Reads an item and tells it to the town: whether another one is to come. */
        boolean readItem() {
            int begin = place;
            int word = readWord();
            if (hasNoRoomFor(word)) {
                place = begin;
                return false;
            }
            boolean told = false;
            switch (word) {
                case GAIT: told = readGait(); break;
                case WALL: told = readWall(); break;
                case OPEN: told = readOpen(); break;
                case WALKERS: told = readWalker(); break;
                case BEATS: told = readBeats(); break;
                default: break;
            }
            isWhole = told && place >= size;
            return told && readSign(';');
        }

        private boolean hasNoRoomFor(int word) {
            return word == GAIT && !town.hasRoomForGait() || word == WALKERS && !town.hasRoomForWalker();
        }

        private static String wordBy(int word) {
            switch (word) {
                case GAIT: return "gait";
                case WALL: return "wall";
                case OPEN: return "open";
                case WALKERS: return "walker";
                default: return "beat";
            }
        }

        /** The word here; NONE, and the place is the first that no word goes on with. */
        private int readWord() {
            int most = 0;
            for (int word = 0; word < WORDS; word++) {
                String whole = wordBy(word);
                int alike = countAlike(whole);
                if (alike == whole.length()) {
                    place += alike;
                    return word;
                }
                most = Math.max(most, alike);
            }
            place += most;
            return NONE;
        }

        private int countAlike(String word) {
            int alike = 0;
            while (alike < word.length() && letterAt(place + alike) == word.charAt(alike)) {
                alike++;
            }
            return alike;
        }

        /** The letter at a place; NONE, which no text may have as a letter, behind the last. */
        private int letterAt(int i) {
            return i >= 0 && i < size && i < letters.length ? letters[i] : NONE;
        }

        private boolean readSign(char sign) {
            if (letterAt(place) != sign) {
                return false;
            }
            place++;
            return true;
        }

        private int digitHere() {
            int digit = letterAt(place);
            return digit >= '0' && digit <= '9' ? digit - '0' : NONE;
        }

        /** A blank and a number, of one digit or two. */
        private int readNumber(int least, int most) {
            if (!readSign(' ')) {
                return NONE;
            }
            numberPlace = place;
            int number = digitHere();
            if (number == NONE) {
                return NONE;
            }
            place++;
            int digit = digitHere();
            if (digit != NONE) {
                number = number * 10 + digit;
                place++;
            }
            return number >= least && number <= most ? number : noSuchNumber();
        }

        private int noSuchNumber() {
            place = numberPlace;
            return NONE;
        }

        private boolean readGait() {
            int atWall = readNumber(0, LAST_AT_WALL);
            if (atWall == NONE || !readSign(' ')) {
                return false;
            }
            int steps = 0;
            int length = 0;
            while (length < MOST_STEPS && stepHere() != NONE) {
                steps = Gait.withStep(steps, length, stepHere());
                length++;
                place++;
            }
            if (length == 0) {
                return false;
            }
            town.addGait(length, atWall, steps);
            return true;
        }

        private int stepHere() {
            switch (letterAt(place)) {
                case 'f': return 0;
                case 'l': return 1;
                case 'r': return 2;
                case 's': return 3;
                default: return NONE;
            }
        }

        private boolean readWall() {
            int where = readNumber(0, LAST_PLACE);
            if (where != NONE && town.hasSomebodyAt(where)) {
                where = noSuchNumber();
            }
            if (where == NONE) {
                return false;
            }
            town.putWall(where, true);
            return true;
        }

        private boolean readOpen() {
            int where = readNumber(0, LAST_PLACE);
            if (where == NONE) {
                return false;
            }
            town.putWall(where, false);
            return true;
        }

        private boolean readWalker() {
            int kind = readNumber(0, LAST_KIND);
            int where = kind == NONE ? NONE : readNumber(0, LAST_PLACE);
            if (where != NONE && town.isWalled(where)) {
                where = noSuchNumber();
            }
            int way = where == NONE ? NONE : readNumber(0, WAYS - 1);
            int gait = way == NONE ? NONE : readNumber(0, town.gaitCount - 1);
            int a = gait == NONE ? NONE : readNumber(0, LAST_A);
            if (a == NONE) {
                return false;
            }
            town.addWalker(kind, where, way, gait, a);
            return true;
        }

        private boolean readBeats() {
            int n = readNumber(1, MOST_TRUE_BEATS);
            if (n == NONE) {
                return false;
            }
            town.goBeats(n);
            return true;
        }
    }

    /** The acts of a walker, and the trace of the bodies that ran. */
    private static final class Acts {
        static final int STEPS = 0;
        static final int MEETS = 1;
        static final int TAKES = 2;
        /** No chain of bodies is as deep: supers and the three acts end long before. */
        private static final int DEEPEST = 20;
        /** The kind above each kind. */
        private static final int[] ABOVE = {NONE, WALKER, WALKER, WALKER, TAKER, KEEPER, TAKER};
        /** The body of each kind for steps, meets and takes; 0 where it has none of its own. */
        private static final int[] BODIES = {
            10, 11, 12,
            20, 0, 0,
            0, 30, 0,
            0, 40, 0,
            51, 0, 50,
            0, 0, 60,
            70, 71, 0
        };

        int ran = 0;
        private int kind = WALKER;
        private int number = 0;
        private int a = 0;
        private final int[] bodies = new int[KEPT_BODIES];

        void forget() {
            ran = 0;
        }

        int perform(int itsKind, int itsNumber, int itsA, int act, int x) {
            kind = itsKind;
            number = itsNumber;
            a = itsA;
            return runBody(this, kind, act, x, 0);
        }

        int bodyAt(int i) {
            return i >= 0 && i < ran && i < bodies.length ? bodies[i] : NONE;
        }

        private void note(int body) {
            if (ran >= 0 && ran < bodies.length) {
                bodies[ran] = body;
            }
            ran++;
        }

        private static int above(int kind) {
            return kind >= 0 && kind < ABOVE.length ? ABOVE[kind] : NONE;
        }

        /** Whether a kind is another one, or under it. */
        static boolean isUnder(int kind, int other) {
            int up = kind;
            for (int i = 0; i <= LAST_KIND && up != NONE; i++) {
                if (up == other) {
                    return true;
                }
                up = above(up);
            }
            return false;
        }

        /** The body for an act that a kind, or the next one above it, has. */
        private static int bodyFor(int kind, int act) {
            int up = kind;
            for (int i = 0; i <= LAST_KIND && up != NONE; i++) {
                int entry = up * 3 + act;
                if (entry >= 0 && entry < BODIES.length && BODIES[entry] != 0) {
                    return BODIES[entry];
                }
                up = above(up);
            }
            return NONE;
        }

        /** Runs an act's body, as a kind has it, for him whose acts these are. */
        private static int runBody(Acts his, int from, int act, int x, int depth) {
            if (depth > DEEPEST) {
                return 0;
            }
            int deeper = depth + 1;
            int body = bodyFor(from, act);
            his.note(body);
            switch (body) {
                case 10: return x + his.number;
                case 11: return runBody(his, his.kind, STEPS, x, deeper) * 2;
                case 12: return runBody(his, his.kind, MEETS, x, deeper) ^ runBody(his, his.kind, STEPS, x - his.a, deeper);
                case 20: return runBody(his, WALKER, STEPS, x, deeper) + his.a;
                case 30: return runBody(his, WALKER, MEETS, x, deeper) * 3;
                case 40: return runBody(his, WALKER, MEETS, x + 1, deeper);
                case 50: return -runBody(his, TAKER, TAKES, x, deeper);
                case 51: return runBody(his, TAKER, STEPS, x, deeper) - his.number;
                case 60: return runBody(his, KEEPER, TAKES, x, deeper) ^ 5;
                case 70: return runBody(his, TAKER, STEPS, x, deeper) * 2;
                case 71: return runBody(his, TAKER, MEETS, x - his.a, deeper);
                default: return 0;
            }
        }
    }
}
