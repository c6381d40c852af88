/**
 * Moves of a planner: sources list moves over objects and lists, draw one by a number, do it and undo it.
 * What each call promises stands in the document (shared/DOC.md); words in capitals are its terms.
 */
public final class MoveMakers {
    public static final int UNKNOWN = -101, OUTSIDE = -102, STATE = -103, ROOM = -104, NONE = -109;

    private static final int MOST_OBJECTS = 16, MOST_SOURCES = 12, MOST_KEPT = 30, MOST_DEEP = 3;
    private static final int LISTS = 4, TOP_VALUE = 5, FARTHEST = 100, TOP_SHARE = 100, RESIDUES = 3;

    private static final int CHANGE = 0, SWAP = 1, PILLAR = 2, INSERT = 3, REVERSE = 4, CROSS = 5;
    private static final int TURN = 6, NEAR = 7, JOINED = 8, FILTERED = 9, OWN = 10;

    private static final int UP = 0, LAZY = 1, SHARED = 2, FAR = 3, SHORT = 4, COUSIN = 5;

    /** What a MOVE throws; CALM is none of the document's causes: it did not throw. */
    private static final int CALM = 0, CAST = 1, INDEX = 3, SIZE = 4, ARITHMETIC = 6;

    private final Plan plan;
    private final Sources sources;
    private final Finder finder;
    private final Doer doer;
    private final History history;
    private int doneInAll;
    private int thrown;

    public MoveMakers() {
        plan = new Plan();
        sources = new Sources();
        finder = new Finder(plan, sources);
        doer = new Doer(plan);
        history = new History(plan);
        doneInAll = 0;
        thrown = 0;
    }

    public int object(int value, int x, int y) {
        if (!within(value, 0, TOP_VALUE) || !within(x, 0, FARTHEST) || !within(y, 0, FARTHEST)) {
            return OUTSIDE;
        }
        if (plan.isFull()) {
            return ROOM;
        }
        return plan.add(value, x, y);
    }

    public int enlist(int object, int list) {
        if (!plan.has(object) || (list != NONE && !isList(list))) {
            return UNKNOWN;
        }
        if (history.kept() > 0) {
            return STATE;
        }
        plan.putBehind(object, list);
        return 1;
    }

    public int pin(int object, boolean on) {
        if (!plan.has(object)) {
            return UNKNOWN;
        }
        int before = plan.isPinned(object) ? 1 : 0;
        plan.setPinned(object, on);
        return before;
    }

    public int objectAt(int object, int what) {
        if (!plan.has(object)) {
            return UNKNOWN;
        }
        switch (what) {
            case 0:
                return plan.valueOf(object);
            case 1:
                return plan.listOf(object);
            case 2:
                return plan.placeOf(object);
            case 3:
                return plan.isPinned(object) ? 1 : 0;
            default:
                return OUTSIDE;
        }
    }

    public int listed(int list, int place) {
        return isList(list) ? plan.objectOn(list, place) : UNKNOWN;
    }

    public int source(int sort, int a, int b) {
        if (namesUnknown(sort, a, b)) {
            return UNKNOWN;
        }
        if (isOutside(sort, a, b)) {
            return OUTSIDE;
        }
        if (sources.depthOfNew(sort, a, b) > MOST_DEEP) {
            return STATE;
        }
        if (sources.isFull()) {
            return ROOM;
        }
        return sources.add(sort, a, b);
    }

    public int shares(int source, int p, int q) {
        if (!sources.has(source)) {
            return UNKNOWN;
        }
        if (!within(p, 1, TOP_SHARE) || !within(q, 1, TOP_SHARE)) {
            return OUTSIDE;
        }
        if (sources.sortOf(source) != JOINED) {
            return STATE;
        }
        sources.setShares(source, p, q);
        return 1;
    }

    public int many(int source) {
        return sources.has(source) ? finder.tally(source) : UNKNOWN;
    }

    public int move(int source, int m, int what) {
        if (!sources.has(source) || !finder.find(source, m)) {
            return UNKNOWN;
        }
        switch (what) {
            case 0:
                return sources.sortOf(finder.foundSource());
            case 1:
                return finder.foundI();
            case 2:
                return finder.foundJ();
            case 3:
                // no sort of the document tells a third number
                return 0;
            default:
                return OUTSIDE;
        }
    }

    public int drawn(int source, long n) {
        if (!sources.has(source)) {
            return UNKNOWN;
        }
        return n < 0 ? OUTSIDE : drawFrom(source, n);
    }

    public int does(int source, int m) {
        if (!sources.has(source) || !finder.find(source, m)) {
            return UNKNOWN;
        }
        if (history.isFull()) {
            return ROOM;
        }
        return doFound();
    }

    public int undo() {
        if (history.kept() == 0) {
            return STATE;
        }
        history.dropLatest();
        takeBack(history.kept());
        return history.kept();
    }

    public int judge(int sort) {
        if (!within(sort, UP, COUSIN)) {
            return OUTSIDE;
        }
        for (int object = 0; object < plan.size(); object++) {
            int verdict = judgeWith(sort, object);
            if (verdict != 0) {
                return verdict;
            }
        }
        return 0;
    }

    public int digest() {
        int d = 17;
        for (int object = 0; object < plan.size(); object++) {
            d = 31 * d + plan.valueOf(object);
        }
        for (int list = 0; list < LISTS; list++) {
            int length = plan.lengthOf(list);
            for (int place = 0; place < length; place++) {
                d = 31 * d + plan.objectOn(list, place);
            }
            d = 31 * d + 77;
        }
        return d;
    }

    public int count(int what) {
        switch (what) {
            case 0:
                return plan.size();
            case 1:
                return sources.size();
            case 2:
                return history.kept();
            case 3:
                return doneInAll;
            case 4:
                return thrown;
            default:
                return OUTSIDE;
        }
    }

    public int clear() {
        int objects = plan.size();
        plan.empty();
        sources.empty();
        history.empty();
        doneInAll = 0;
        thrown = 0;
        return objects;
    }

    private static boolean within(int number, int least, int most) {
        return number >= least && number <= most;
    }

    private static boolean isList(int list) {
        return within(list, 0, LISTS - 1);
    }

    /** Whether a new SOURCE would name a LIST or a SOURCE that there is not. */
    private boolean namesUnknown(int sort, int a, int b) {
        switch (sort) {
            case INSERT:
            case CROSS:
                return !isList(a) || !isList(b);
            case REVERSE:
            case TURN:
                return !isList(a);
            case JOINED:
                return !sources.has(a) || !sources.has(b);
            case FILTERED:
                return !sources.has(a);
            default:
                return false;
        }
    }

    private static boolean isOutside(int sort, int a, int b) {
        switch (sort) {
            case CROSS:
                return a == b;
            case NEAR:
                return !within(a, 1, MOST_OBJECTS - 1);
            case FILTERED:
                return !within(b, 0, RESIDUES - 1);
            case OWN:
                return !within(a, UP, COUSIN);
            default:
                return !within(sort, CHANGE, OWN);
        }
    }

    /** A draw takes one side of each JOINED SOURCE, so it is a way down to a SOURCE that is none; no tree is walked. */
    private int drawFrom(int source, long n) {
        int from = source;
        long by = n;
        int ahead = 0;
        for (int depth = 0; depth < MOST_DEEP && sources.sortOf(from) == JOINED; depth++) {
            int movesOfA = finder.tally(sources.aOf(from));
            int movesOfB = finder.tally(sources.bOf(from));
            boolean toB = movesOfA == 0;
            if (movesOfA > 0 && movesOfB > 0) {
                int p = sources.pOf(from);
                int parts = Math.max(1, p + sources.qOf(from));
                toB = by % parts >= p;
                by = by / parts;
            }
            if (toB) {
                ahead += movesOfA;
            }
            from = toB ? sources.bOf(from) : sources.aOf(from);
        }
        int moves = finder.tally(from);
        return moves <= 0 ? NONE : ahead + (int) (by % moves);
    }

    /** Does the MOVE that the finder holds, and keeps it unless it throws. */
    private int doFound() {
        int source = finder.foundSource();
        int slot = history.kept();
        int sort = sources.sortOf(source);
        int a = sources.aOf(source);
        history.save(slot, lazyObject(sort, a, finder.foundI()));
        int cause = doer.carryOut(sort, a, sources.bOf(source), finder.foundI(), finder.foundJ());
        if (cause != CALM) {
            history.restore(slot);
            thrown++;
            return -1 - cause;
        }
        history.keepLatest();
        doneInAll++;
        return history.kept();
    }

    private static int lazyObject(int sort, int a, int object) {
        return sort == OWN && a == LAZY ? object : NONE;
    }

    private void takeBack(int slot) {
        int lazy = history.lazyOf(slot);
        if (lazy == NONE) {
            history.restore(slot);
        } else {
            doer.undoLazy(lazy);
        }
    }

    /** 0 if the OBJECT comes back, else what judge answers; it is no MOVE of a SOURCE, so it isn't counted. */
    private int judgeWith(int own, int object) {
        history.save(History.TRIAL, lazyObject(OWN, own, object));
        int cause = doer.doOwn(own, object);
        if (cause != CALM) {
            history.restore(History.TRIAL);
            return -1 - cause;
        }
        takeBack(History.TRIAL);
        boolean back = history.isAsSaved(History.TRIAL);
        history.restore(History.TRIAL);
        return back ? 0 : 1 + object;
    }

    /**
     * The OBJECTS and LISTS. An OBJECT knows its LIST and place, and a LIST is nothing but that: so the order
     * can't disagree with the OBJECTS, and the MOVES of LISTS need no index that is read out of a row.
     */
    private static final class Plan {
        private final int[] values;
        private final int[] xs;
        private final int[] ys;
        private final int[] lists;
        private final int[] places;
        private final boolean[] pinned;
        private final int[] ranks;
        private int size;

        Plan() {
            values = new int[MOST_OBJECTS];
            xs = new int[MOST_OBJECTS];
            ys = new int[MOST_OBJECTS];
            lists = new int[MOST_OBJECTS];
            places = new int[MOST_OBJECTS];
            pinned = new boolean[MOST_OBJECTS];
            ranks = new int[MOST_OBJECTS];
            size = 0;
        }

        void empty() {
            size = 0;
        }

        int size() {
            return size;
        }

        boolean isFull() {
            return size >= MOST_OBJECTS;
        }

        boolean has(int object) {
            return object >= 0 && object < size;
        }

        int add(int value, int x, int y) {
            if (isFull()) {
                return ROOM;
            }
            int object = size;
            size++;
            values[object] = value;
            xs[object] = x;
            ys[object] = y;
            lists[object] = NONE;
            places[object] = NONE;
            pinned[object] = false;
            return object;
        }

        int valueOf(int object) {
            return has(object) ? values[object] : NONE;
        }

        void setValue(int object, int value) {
            if (has(object)) {
                values[object] = value;
            }
        }

        int listOf(int object) {
            return has(object) ? lists[object] : NONE;
        }

        int placeOf(int object) {
            return has(object) ? places[object] : NONE;
        }

        void setPlace(int object, int list, int place) {
            if (has(object)) {
                lists[object] = list;
                places[object] = place;
            }
        }

        boolean isPinned(int object) {
            return has(object) && pinned[object];
        }

        void setPinned(int object, boolean on) {
            if (has(object)) {
                pinned[object] = on;
            }
        }

        int lengthOf(int list) {
            int length = 0;
            for (int o = 0; o < size; o++) {
                if (lists[o] == list) {
                    length++;
                }
            }
            return length;
        }

        int objectOn(int list, int place) {
            for (int o = 0; o < size; o++) {
                if (lists[o] == list && places[o] == place) {
                    return o;
                }
            }
            return NONE;
        }

        /** The places of a LIST's PINNED OBJECTS, a bit each. */
        int pinnedPlaces(int list) {
            int bits = 0;
            for (int o = 0; o < size; o++) {
                if (pinned[o] && lists[o] == list) {
                    bits |= 1 << places[o];
                }
            }
            return bits;
        }

        /** The first place of a LIST from which on none is PINNED. */
        int firstFree(int list) {
            int place = 0;
            for (int o = 0; o < size; o++) {
                if (pinned[o] && lists[o] == list) {
                    place = Math.max(place, places[o] + 1);
                }
            }
            return place;
        }

        boolean hasPinnedOf(int value) {
            for (int o = 0; o < size; o++) {
                if (pinned[o] && values[o] == value) {
                    return true;
                }
            }
            return false;
        }

        boolean hasValue(int value) {
            for (int o = 0; o < size; o++) {
                if (values[o] == value) {
                    return true;
                }
            }
            return false;
        }

        void replaceValue(int from, int to) {
            for (int o = 0; o < size; o++) {
                if (values[o] == from) {
                    values[o] = to;
                }
            }
        }

        void exchangeValues(int one, int other) {
            int kept = valueOf(one);
            setValue(one, valueOf(other));
            setValue(other, kept);
        }

        void putBehind(int object, int list) {
            takeOut(object);
            setPlace(object, list, list == NONE ? NONE : lengthOf(list));
        }

        void carry(int fromList, int from, int toList, int to) {
            int object = objectOn(fromList, from);
            takeOut(object);
            shift(toList, to, 1);
            setPlace(object, toList, to);
        }

        private void takeOut(int object) {
            int list = listOf(object);
            if (list != NONE) {
                int place = placeOf(object);
                setPlace(object, NONE, NONE);
                shift(list, place + 1, -1);
            }
        }

        private void shift(int list, int from, int by) {
            for (int o = 0; o < size; o++) {
                if (lists[o] == list && places[o] >= from) {
                    places[o] += by;
                }
            }
        }

        void reverse(int list, int from, int to) {
            for (int o = 0; o < size; o++) {
                if (lists[o] == list && places[o] >= from && places[o] <= to) {
                    places[o] = from + to - places[o];
                }
            }
        }

        void cross(int a, int fromA, int b, int fromB) {
            for (int o = 0; o < size; o++) {
                if (lists[o] == a && places[o] >= fromA) {
                    lists[o] = b;
                    places[o] += fromB - fromA;
                } else if (lists[o] == b && places[o] >= fromB) {
                    lists[o] = a;
                    places[o] += fromA - fromB;
                }
            }
        }

        void turn(int list, int by) {
            int length = lengthOf(list);
            for (int o = 0; o < size; o++) {
                if (lists[o] == list) {
                    places[o] += places[o] < by ? length - by : -by;
                }
            }
        }

        /** Ranks the others that are not PINNED by their nearness to an OBJECT: how many they are. */
        int rankOthers(int object) {
            if (!has(object)) {
                return 0;
            }
            int ranked = 0;
            for (int o = 0; o < size; o++) {
                if (o != object && !pinned[o]) {
                    int dx = xs[o] - xs[object];
                    int dy = ys[o] - ys[object];
                    // the number breaks ties, and stays readable as what is left over
                    int key = (dx * dx + dy * dy) * MOST_OBJECTS + o;
                    int at = ranked;
                    while (at > 0 && ranks[at - 1] > key) {
                        ranks[at] = ranks[at - 1];
                        at--;
                    }
                    ranks[at] = key;
                    ranked++;
                }
            }
            return ranked;
        }

        int rankedAt(int rank) {
            return rank >= 0 && rank < MOST_OBJECTS ? Math.floorMod(ranks[rank], MOST_OBJECTS) : NONE;
        }
    }

    /** The SOURCES, a row for each of their numbers. */
    private static final class Sources {
        private final int[] sorts;
        private final int[] as;
        private final int[] bs;
        private final int[] depths;
        private final int[] ps;
        private final int[] qs;
        private int size;

        Sources() {
            sorts = new int[MOST_SOURCES];
            as = new int[MOST_SOURCES];
            bs = new int[MOST_SOURCES];
            depths = new int[MOST_SOURCES];
            ps = new int[MOST_SOURCES];
            qs = new int[MOST_SOURCES];
            size = 0;
        }

        void empty() {
            size = 0;
        }

        int size() {
            return size;
        }

        boolean isFull() {
            return size >= MOST_SOURCES;
        }

        boolean has(int source) {
            return source >= 0 && source < size;
        }

        int add(int sort, int a, int b) {
            if (isFull()) {
                return ROOM;
            }
            int depth = depthOfNew(sort, a, b);
            int source = size;
            size++;
            sorts[source] = sort;
            as[source] = a;
            bs[source] = b;
            depths[source] = depth;
            ps[source] = 1;
            qs[source] = 1;
            return source;
        }

        int depthOfNew(int sort, int a, int b) {
            if (sort == JOINED) {
                return 1 + Math.max(depthOf(a), depthOf(b));
            }
            return sort == FILTERED ? 1 + depthOf(a) : 0;
        }

        private int depthOf(int source) {
            return has(source) ? depths[source] : 0;
        }

        int sortOf(int source) {
            return has(source) ? sorts[source] : NONE;
        }

        int aOf(int source) {
            return has(source) ? as[source] : NONE;
        }

        int bOf(int source) {
            return has(source) ? bs[source] : NONE;
        }

        int pOf(int source) {
            return has(source) ? ps[source] : 1;
        }

        int qOf(int source) {
            return has(source) ? qs[source] : 1;
        }

        void setShares(int source, int p, int q) {
            if (has(source)) {
                ps[source] = p;
                qs[source] = q;
            }
        }
    }

    /**
     * Goes through the MOVES of a SOURCE in their order, counts them and holds the wanted one. Nothing is
     * stored on the way, so a call costs no room however many MOVES there are.
     */
    private static final class Finder {
        private static final int ALL_RESIDUES = 7;

        private final Plan plan;
        private final Sources sources;
        private int wanted;
        private int seen;
        /** The SOURCE whose own MOVES are offered now, and what of (i + j + k) % 3 passes its filters, a bit each. */
        private int offering;
        private int residues;
        private int foundSource;
        private int foundI;
        private int foundJ;

        Finder(Plan plan, Sources sources) {
            this.plan = plan;
            this.sources = sources;
        }

        int foundSource() {
            return foundSource;
        }

        int foundI() {
            return foundI;
        }

        int foundJ() {
            return foundJ;
        }

        int tally(int source) {
            wanted = NONE;
            seen = 0;
            walk(source, ALL_RESIDUES, 0);
            return seen;
        }

        boolean find(int source, int m) {
            if (m < 0) {
                return false;
            }
            wanted = m;
            seen = 0;
            walk(source, ALL_RESIDUES, 0);
            return m < seen;
        }

        private void walk(int source, int passing, int depth) {
            if (depth > MOST_DEEP || !sources.has(source)) {
                return;
            }
            int sort = sources.sortOf(source);
            int a = sources.aOf(source);
            int b = sources.bOf(source);
            if (sort == JOINED) {
                walk(a, passing, depth + 1);
                walk(b, passing, depth + 1);
            } else if (sort == FILTERED) {
                walk(a, passing & (1 << b), depth + 1);
            } else {
                offering = source;
                residues = passing;
                offerAll(sort, a, b);
            }
        }

        private void offerAll(int sort, int a, int b) {
            switch (sort) {
                case CHANGE:
                    offerChanges();
                    break;
                case SWAP:
                    offerSwaps();
                    break;
                case PILLAR:
                    offerPillars();
                    break;
                case INSERT:
                    if (a == b) {
                        offerInsertsWithin(a);
                    } else {
                        offerInsertsBetween(a, b);
                    }
                    break;
                case REVERSE:
                    offerReverses(a);
                    break;
                case CROSS:
                    offerCrosses(a, b);
                    break;
                case TURN:
                    offerTurns(a);
                    break;
                case NEAR:
                    offerNears(a);
                    break;
                case OWN:
                    offerOwns(a);
                    break;
                default:
                    break;
            }
        }

        private void offer(int i, int j) {
            if ((residues & (1 << ((i + j) % RESIDUES))) == 0) {
                return;
            }
            if (seen == wanted) {
                foundSource = offering;
                foundI = i;
                foundJ = j;
            }
            seen++;
        }

        private void offerChanges() {
            for (int i = 0; i < plan.size(); i++) {
                if (!plan.isPinned(i)) {
                    offerOtherValues(i, plan.valueOf(i));
                }
            }
        }

        private void offerOtherValues(int i, int value) {
            for (int j = 0; j <= TOP_VALUE; j++) {
                if (j != value) {
                    offer(i, j);
                }
            }
        }

        private void offerSwaps() {
            for (int i = 0; i < plan.size(); i++) {
                for (int j = i + 1; j < plan.size(); j++) {
                    if (!plan.isPinned(i) && !plan.isPinned(j) && plan.valueOf(i) != plan.valueOf(j)) {
                        offer(i, j);
                    }
                }
            }
        }

        private void offerPillars() {
            for (int i = 0; i <= TOP_VALUE; i++) {
                if (plan.hasValue(i) && !plan.hasPinnedOf(i)) {
                    offerOtherValues(i, i);
                }
            }
        }

        private void offerInsertsWithin(int list) {
            int length = plan.lengthOf(list);
            int pinned = plan.pinnedPlaces(list);
            for (int i = 0; i < length; i++) {
                for (int j = 0; j < length; j++) {
                    if (i != j && isFree(pinned, Math.min(i, j), Math.max(i, j))) {
                        offer(i, j);
                    }
                }
            }
        }

        private void offerInsertsBetween(int a, int b) {
            int lengthA = plan.lengthOf(a);
            int lengthB = plan.lengthOf(b);
            int firstB = plan.firstFree(b);
            for (int i = plan.firstFree(a); i < lengthA; i++) {
                for (int j = firstB; j <= lengthB; j++) {
                    offer(i, j);
                }
            }
        }

        private void offerReverses(int list) {
            int length = plan.lengthOf(list);
            int pinned = plan.pinnedPlaces(list);
            for (int i = 0; i < length; i++) {
                for (int j = i + 1; j < length; j++) {
                    if (isFree(pinned, i, j)) {
                        offer(i, j);
                    }
                }
            }
        }

        private void offerCrosses(int a, int b) {
            int lengthA = plan.lengthOf(a);
            int lengthB = plan.lengthOf(b);
            int firstB = plan.firstFree(b);
            for (int i = plan.firstFree(a); i <= lengthA; i++) {
                for (int j = firstB; j <= lengthB; j++) {
                    if (i < lengthA || j < lengthB) {
                        offer(i, j);
                    }
                }
            }
        }

        private void offerTurns(int list) {
            if (plan.pinnedPlaces(list) != 0) {
                return;
            }
            int length = plan.lengthOf(list);
            for (int i = 1; i < length; i++) {
                offer(i, 0);
            }
        }

        private void offerNears(int most) {
            for (int i = 0; i < plan.size(); i++) {
                if (!plan.isPinned(i)) {
                    int near = Math.min(most, plan.rankOthers(i));
                    for (int j = 0; j < near; j++) {
                        if (plan.valueOf(plan.rankedAt(j)) != plan.valueOf(i)) {
                            offer(i, j);
                        }
                    }
                }
            }
        }

        private void offerOwns(int own) {
            boolean changesFirst = own == FAR || own == COUSIN;
            if (changesFirst && plan.isPinned(0)) {
                return;
            }
            for (int i = 0; i < plan.size(); i++) {
                if (!plan.isPinned(i)) {
                    offer(i, 0);
                }
            }
        }

        private static boolean isFree(int pinned, int from, int to) {
            int width = to - from + 1;
            return ((pinned >>> from) & ((1 << width) - 1)) == 0;
        }
    }

    /** Does MOVES on the plan; each answers the CAUSE of what it throws, or CALM. */
    private static final class Doer {
        private final Plan plan;

        Doer(Plan plan) {
            this.plan = plan;
        }

        int carryOut(int sort, int a, int b, int i, int j) {
            switch (sort) {
                case CHANGE:
                    plan.setValue(i, j);
                    return CALM;
                case SWAP:
                    plan.exchangeValues(i, j);
                    return CALM;
                case PILLAR:
                    plan.replaceValue(i, j);
                    return CALM;
                case INSERT:
                    plan.carry(a, i, b, j);
                    return CALM;
                case REVERSE:
                    plan.reverse(a, i, j);
                    return CALM;
                case CROSS:
                    plan.cross(a, i, b, j);
                    return CALM;
                case TURN:
                    plan.turn(a, i);
                    return CALM;
                case NEAR:
                    exchangeWithNear(i, j);
                    return CALM;
                case OWN:
                    return doOwn(a, i);
                default:
                    return CALM;
            }
        }

        private void exchangeWithNear(int object, int rank) {
            if (rank < plan.rankOthers(object)) {
                plan.exchangeValues(object, plan.rankedAt(rank));
            }
        }

        int doOwn(int own, int object) {
            int ahead = plan.valueOf(object);
            switch (own) {
                case UP:
                case LAZY:
                    plan.setValue(object, ahead >= TOP_VALUE ? 0 : ahead + 1);
                    return CALM;
                case SHARED:
                    return doShared(object, ahead);
                case FAR:
                    return doFar(object, ahead);
                case SHORT:
                    return doShort(object, ahead);
                case COUSIN:
                    return doCousin(object, ahead);
                default:
                    return CALM;
            }
        }

        private int doShared(int object, int ahead) {
            if (ahead <= 0) {
                return ARITHMETIC;
            }
            plan.setValue(object, TOP_VALUE / ahead);
            return CALM;
        }

        private int doFar(int object, int ahead) {
            plan.setValue(0, 0);
            if (!plan.has(object + ahead)) {
                return INDEX;
            }
            plan.setValue(object, plan.valueOf(object + ahead));
            return CALM;
        }

        private int doShort(int object, int ahead) {
            if (ahead < 2) {
                return SIZE;
            }
            plan.setValue(object, ahead - 2);
            return CALM;
        }

        private int doCousin(int object, int ahead) {
            plan.setValue(0, TOP_VALUE);
            if (ahead <= 0) {
                return CAST;
            }
            plan.setValue(object, ahead - 1);
            return CALM;
        }

        void undoLazy(int object) {
            int now = plan.valueOf(object);
            if (now != 1) {
                plan.setValue(object, now <= 0 ? TOP_VALUE : now - 1);
            }
        }
    }

    /** The plan as it was ahead of each MOVE that is kept, a slot each, and one slot more for trials. */
    private static final class History {
        static final int TRIAL = MOST_KEPT;
        private static final int SLOTS = MOST_KEPT + 1;

        private final Plan plan;
        private final int[] values;
        private final int[] lists;
        private final int[] places;
        private final int[] sizes;
        private final int[] lazies;
        private int kept;

        History(Plan plan) {
            this.plan = plan;
            values = new int[SLOTS * MOST_OBJECTS];
            lists = new int[SLOTS * MOST_OBJECTS];
            places = new int[SLOTS * MOST_OBJECTS];
            sizes = new int[SLOTS];
            lazies = new int[SLOTS];
            kept = 0;
        }

        void empty() {
            kept = 0;
        }

        int kept() {
            return kept;
        }

        boolean isFull() {
            return kept >= MOST_KEPT;
        }

        void keepLatest() {
            if (!isFull()) {
                kept++;
            }
        }

        void dropLatest() {
            if (kept > 0) {
                kept--;
            }
        }

        /** Saves the plan; lazy is the OBJECT that a LAZY MOVE is about to change, else NONE. */
        void save(int slot, int lazy) {
            if (!isSlot(slot)) {
                return;
            }
            sizes[slot] = plan.size();
            lazies[slot] = lazy;
            for (int o = 0; o < plan.size(); o++) {
                int at = slot * MOST_OBJECTS + o;
                values[at] = plan.valueOf(o);
                lists[at] = plan.listOf(o);
                places[at] = plan.placeOf(o);
            }
        }

        int lazyOf(int slot) {
            return isSlot(slot) ? lazies[slot] : NONE;
        }

        /** OBJECTS that came behind the saving are left alone. */
        void restore(int slot) {
            if (!isSlot(slot)) {
                return;
            }
            for (int o = 0; o < sizes[slot]; o++) {
                int at = slot * MOST_OBJECTS + o;
                plan.setValue(o, values[at]);
                plan.setPlace(o, lists[at], places[at]);
            }
        }

        /** Looks at VALUES alone: sorts of one's own, which are what is tried, change nothing else. */
        boolean isAsSaved(int slot) {
            if (!isSlot(slot)) {
                return false;
            }
            for (int o = 0; o < sizes[slot]; o++) {
                if (plan.valueOf(o) != values[slot * MOST_OBJECTS + o]) {
                    return false;
                }
            }
            return true;
        }

        private static boolean isSlot(int slot) {
            return slot >= 0 && slot < SLOTS;
        }
    }
}
