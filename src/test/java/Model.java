import java.util.ArrayList;
import java.util.Collections;
import java.util.Comparator;
import java.util.List;

/**
 * The document once more, written for plainness alone: whole lists of moves, whole copies of the state.
 * Random runs compare MoveMakers with it.
 */
final class Model {
    private static final int UNKNOWN = -101, OUTSIDE = -102, STATE = -103, ROOM = -104, NONE = -109;

    private record Thing(int x, int y) {}

    private record Source(int sort, int a, int b, int deep) {}

    private record Move(int sort, int a, int b, int i, int j, int k) {}

    private record Kept(Move move, List<Integer> values, List<List<Integer>> lists) {}

    private static final class Thrown extends RuntimeException {
        private static final long serialVersionUID = 1L;
        final int cause;

        Thrown(int cause) {
            this.cause = cause;
        }
    }

    private final List<Thing> things = new ArrayList<>();
    private List<Integer> values = new ArrayList<>();
    private List<List<Integer>> lists = emptyLists();
    private final List<Boolean> pins = new ArrayList<>();
    private final List<Source> sources = new ArrayList<>();
    private final List<int[]> shares = new ArrayList<>();
    private final List<Kept> kept = new ArrayList<>();
    private int done = 0;
    private int threw = 0;

    private static List<List<Integer>> emptyLists() {
        List<List<Integer>> lists = new ArrayList<>();
        for (int l = 0; l < 4; l++) {
            lists.add(new ArrayList<>());
        }
        return lists;
    }

    private static List<List<Integer>> copyOf(List<List<Integer>> lists) {
        List<List<Integer>> copy = new ArrayList<>();
        for (List<Integer> list : lists) {
            copy.add(new ArrayList<>(list));
        }
        return copy;
    }

    private boolean isObject(int o) {
        return o >= 0 && o < things.size();
    }

    private static boolean isList(int l) {
        return l >= 0 && l < 4;
    }

    private boolean isSource(int s) {
        return s >= 0 && s < sources.size();
    }

    int object(int value, int x, int y) {
        if (value < 0 || value > 5 || x < 0 || x > 100 || y < 0 || y > 100) {
            return OUTSIDE;
        }
        if (things.size() == 16) {
            return ROOM;
        }
        things.add(new Thing(x, y));
        values.add(value);
        pins.add(false);
        return things.size() - 1;
    }

    int enlist(int object, int list) {
        if (!isObject(object) || !(list == NONE || isList(list))) {
            return UNKNOWN;
        }
        if (!kept.isEmpty()) {
            return STATE;
        }
        for (List<Integer> l : lists) {
            l.remove((Integer) object);
        }
        if (list != NONE) {
            lists.get(list).add(object);
        }
        return 1;
    }

    int pin(int object, boolean on) {
        return isObject(object) ? (pins.set(object, on) ? 1 : 0) : UNKNOWN;
    }

    int objectAt(int object, int what) {
        if (!isObject(object)) {
            return UNKNOWN;
        }
        if (what < 0 || what > 3) {
            return OUTSIDE;
        }
        if (what == 0) {
            return values.get(object);
        }
        if (what == 3) {
            return pins.get(object) ? 1 : 0;
        }
        for (int l = 0; l < 4; l++) {
            int place = lists.get(l).indexOf(object);
            if (place >= 0) {
                return what == 1 ? l : place;
            }
        }
        return NONE;
    }

    int listed(int list, int place) {
        if (!isList(list)) {
            return UNKNOWN;
        }
        List<Integer> l = lists.get(list);
        return place >= 0 && place < l.size() ? l.get(place) : NONE;
    }

    int source(int sort, int a, int b) {
        boolean listA = sort >= 3 && sort <= 6;
        boolean listB = sort == 3 || sort == 5;
        if (listA && !isList(a) || listB && !isList(b)) {
            return UNKNOWN;
        }
        if ((sort == 8 || sort == 9) && !isSource(a) || sort == 8 && !isSource(b)) {
            return UNKNOWN;
        }
        if (sort < 0 || sort > 10 || sort == 7 && (a < 1 || a > 15) || sort == 10 && (a < 0 || a > 5)
            || sort == 9 && (b < 0 || b > 2) || sort == 5 && a == b) {
            return OUTSIDE;
        }
        int deep = sort == 8 ? 1 + Math.max(sources.get(a).deep, sources.get(b).deep) : sort == 9 ? 1 + sources.get(a).deep : 0;
        if (deep > 3) {
            return STATE;
        }
        if (sources.size() == 12) {
            return ROOM;
        }
        sources.add(new Source(sort, a, b, deep));
        shares.add(new int[] {1, 1});
        return sources.size() - 1;
    }

    int shares(int source, int p, int q) {
        if (!isSource(source)) {
            return UNKNOWN;
        }
        if (p < 1 || p > 100 || q < 1 || q > 100) {
            return OUTSIDE;
        }
        if (sources.get(source).sort != 8) {
            return STATE;
        }
        shares.set(source, new int[] {p, q});
        return 1;
    }

    private boolean anyPinned(int list, int from, int to) {
        List<Integer> l = lists.get(list);
        for (int place = from; place < l.size() && place <= to; place++) {
            if (pins.get(l.get(place))) {
                return true;
            }
        }
        return false;
    }

    private List<Integer> nearest(int i) {
        List<Integer> others = new ArrayList<>();
        for (int o = 0; o < things.size(); o++) {
            if (o != i && !pins.get(o)) {
                others.add(o);
            }
        }
        Thing t = things.get(i);
        others.sort(Comparator.comparingInt(o -> (things.get(o).x - t.x) * (things.get(o).x - t.x)
            + (things.get(o).y - t.y) * (things.get(o).y - t.y)));
        return others;
    }

    private List<Move> movesOf(int source) {
        Source s = sources.get(source);
        List<Move> moves = new ArrayList<>();
        if (s.sort == 8) {
            moves.addAll(movesOf(s.a));
            moves.addAll(movesOf(s.b));
        } else if (s.sort == 9) {
            for (Move m : movesOf(s.a)) {
                if ((m.i + m.j + m.k) % 3 == s.b) {
                    moves.add(m);
                }
            }
        } else {
            // every i and j that could be, in order: the sort says which there are
            for (int i = 0; i <= 16; i++) {
                for (int j = 0; j <= 16; j++) {
                    if (isMove(s, i, j)) {
                        moves.add(new Move(s.sort, s.a, s.b, i, j, 0));
                    }
                }
            }
        }
        return moves;
    }

    private boolean free(int object) {
        return isObject(object) && !pins.get(object);
    }

    private boolean isMove(Source s, int i, int j) {
        int n = s.sort >= 3 && s.sort <= 6 ? lists.get(s.a).size() : 0;
        switch (s.sort) {
            case 0:
                return free(i) && j <= 5 && values.get(i) != j;
            case 1:
                return i < j && free(i) && free(j) && !values.get(i).equals(values.get(j));
            case 2:
                return isPillar(i) && j <= 5 && i != j;
            case 3:
                return isInsert(s.a, s.b, i, j);
            case 4:
                return i < j && j < n && !anyPinned(s.a, i, j);
            case 5:
                int other = lists.get(s.b).size();
                return i <= n && j <= other && !(i == n && j == other) && !anyPinned(s.a, i, 16) && !anyPinned(s.b, j, 16);
            case 6:
                return j == 0 && i >= 1 && i <= n - 1 && !anyPinned(s.a, 0, 16);
            case 7:
                return free(i) && j < s.a && j < nearest(i).size() && !values.get(nearest(i).get(j)).equals(values.get(i));
            default:
                return j == 0 && free(i) && !((s.a == 3 || s.a == 5) && pins.get(0));
        }
    }

    private boolean isPillar(int value) {
        boolean one = false;
        for (int o = 0; o < values.size(); o++) {
            if (values.get(o) == value) {
                if (pins.get(o)) {
                    return false;
                }
                one = true;
            }
        }
        return one;
    }

    private boolean isInsert(int a, int b, int i, int j) {
        int n = lists.get(a).size();
        if (a == b) {
            return i < n && j < n && i != j && !anyPinned(a, Math.min(i, j), Math.max(i, j));
        }
        return i < n && j <= lists.get(b).size() && !anyPinned(a, i, 16) && !anyPinned(b, j, 16);
    }

    int many(int source) {
        return isSource(source) ? movesOf(source).size() : UNKNOWN;
    }

    int move(int source, int m, int what) {
        if (!isSource(source) || m < 0 || m >= movesOf(source).size()) {
            return UNKNOWN;
        }
        Move move = movesOf(source).get(m);
        switch (what) {
            case 0:
                return move.sort;
            case 1:
                return move.i;
            case 2:
                return move.j;
            case 3:
                return move.k;
            default:
                return OUTSIDE;
        }
    }

    int drawn(int source, long n) {
        if (!isSource(source)) {
            return UNKNOWN;
        }
        if (n < 0) {
            return OUTSIDE;
        }
        int all = many(source);
        if (all == 0) {
            return NONE;
        }
        Source s = sources.get(source);
        if (s.sort != 8) {
            return (int) (n % all);
        }
        int ofA = many(s.a);
        if (ofA == 0) {
            return drawn(s.b, n);
        }
        if (ofA == all) {
            return drawn(s.a, n);
        }
        int p = shares.get(source)[0];
        int sum = p + shares.get(source)[1];
        return n % sum < p ? drawn(s.a, n / sum) : ofA + drawn(s.b, n / sum);
    }

    private void swap(int one, int other) {
        Collections.swap(values, one, other);
    }

    private void carryOut(Move m) {
        switch (m.sort) {
            case 0:
                values.set(m.i, m.j);
                break;
            case 1:
                swap(m.i, m.j);
                break;
            case 2:
                values.replaceAll(v -> v == m.i ? m.j : v);
                break;
            case 3:
                lists.get(m.b).add(m.j, lists.get(m.a).remove(m.i));
                break;
            case 4:
                Collections.reverse(lists.get(m.a).subList(m.i, m.j + 1));
                break;
            case 5:
                cross(lists.get(m.a), lists.get(m.b), m.i, m.j);
                break;
            case 6:
                Collections.rotate(lists.get(m.a), -m.i);
                break;
            case 7:
                swap(m.i, nearest(m.i).get(m.j));
                break;
            default:
                own(m.a, m.i);
        }
    }

    private static void cross(List<Integer> a, List<Integer> b, int i, int j) {
        List<Integer> tailA = new ArrayList<>(a.subList(i, a.size()));
        List<Integer> tailB = new ArrayList<>(b.subList(j, b.size()));
        a.subList(i, a.size()).clear();
        b.subList(j, b.size()).clear();
        a.addAll(tailB);
        b.addAll(tailA);
    }

    private static void throwIf(boolean bad, int cause) {
        if (bad) {
            throw new Thrown(cause);
        }
    }

    private void own(int sort, int i) {
        int v = values.get(i);
        switch (sort) {
            case 0:
            case 1:
                values.set(i, (v + 1) % 6);
                break;
            case 2:
                throwIf(v == 0, 6);
                values.set(i, 5 / v);
                break;
            case 3:
                values.set(0, 0);
                throwIf(i + v >= values.size(), 3);
                values.set(i, values.get(i + v));
                break;
            case 4:
                throwIf(v < 2, 4);
                values.set(i, v - 2);
                break;
            default:
                values.set(0, 5);
                throwIf(v == 0, 1);
                values.set(i, v - 1);
        }
    }

    private Kept keep(Move move) {
        return new Kept(move, new ArrayList<>(values), copyOf(lists));
    }

    private void restore(Kept k) {
        for (int o = 0; o < k.values.size(); o++) {
            values.set(o, k.values.get(o));
        }
        lists = copyOf(k.lists);
    }

    private void takeBack(Kept k) {
        if (k.move.sort == 10 && k.move.a == 1) {
            int now = values.get(k.move.i);
            values.set(k.move.i, now == 1 ? 1 : (now + 5) % 6);
        } else {
            restore(k);
        }
    }

    int does(int source, int m) {
        if (!isSource(source) || m < 0 || m >= many(source)) {
            return UNKNOWN;
        }
        if (kept.size() == 30) {
            return ROOM;
        }
        Kept k = keep(movesOf(source).get(m));
        try {
            carryOut(k.move);
        } catch (Thrown t) {
            restore(k);
            threw++;
            return -1 - t.cause;
        }
        kept.add(k);
        done++;
        return kept.size();
    }

    int undo() {
        if (kept.isEmpty()) {
            return STATE;
        }
        takeBack(kept.remove(kept.size() - 1));
        return kept.size();
    }

    int judge(int sort) {
        if (sort < 0 || sort > 5) {
            return OUTSIDE;
        }
        for (int o = 0; o < things.size(); o++) {
            Kept k = keep(new Move(10, sort, 0, o, 0, 0));
            try {
                carryOut(k.move);
                takeBack(k);
                if (!values.equals(k.values) || !lists.equals(k.lists)) {
                    return 1 + o;
                }
            } catch (Thrown t) {
                return -1 - t.cause;
            } finally {
                restore(k);
            }
        }
        return 0;
    }

    int digest() {
        int d = 17;
        for (int v : values) {
            d = 31 * d + v;
        }
        for (List<Integer> list : lists) {
            for (int o : list) {
                d = 31 * d + o;
            }
            d = 31 * d + 77;
        }
        return d;
    }

    int count(int what) {
        int[] counts = {things.size(), sources.size(), kept.size(), done, threw};
        return what >= 0 && what < 5 ? counts[what] : OUTSIDE;
    }

    int clear() {
        int objects = things.size();
        things.clear();
        values = new ArrayList<>();
        lists = emptyLists();
        pins.clear();
        sources.clear();
        shares.clear();
        kept.clear();
        done = 0;
        threw = 0;
        return objects;
    }
}
