/** Promises 7 to 11: sources, their shares, how many moves they have, which these are, which is drawn. */
public final class SourcesTest {
    private static final int UNKNOWN = -101, OUTSIDE = -102, STATE = -103, ROOM = -104, NONE = -109;
    private static final int[] WRONG = {-1, Integer.MIN_VALUE, Integer.MAX_VALUE, NONE};
    private static final Due due = new Due("SourcesTest");

    public static void main(String[] args) {
        source();
        sourceOrderOfAnswers();
        shares();
        wrongInputs();
        changes();
        swaps();
        pillars();
        insertsWithin();
        insertsBetween();
        reverses();
        crosses();
        turns();
        nears();
        owns();
        joinedAndFiltered();
        movesAreAsThingsAreThen();
        sixteenObjects();
        nothingIsLeftOfWhatWasCleared();
        drawn();
        drawnDeep();
        due.end();
    }

    /** All moves of a source, "i,j i,j ..", and the sort of each. */
    private static void moves(String what, MoveMakers x, int source, int sort, String want) {
        due.same(what + ": moves", Scene.moves(x, source), want);
        int many = x.many(source);
        for (int m = 0; m < many; m++) {
            due.is(what + " sort", x.move(source, m, 0), sort);
            due.is(what + " k", x.move(source, m, 3), 0);
        }
        due.is(what + " behind the last", x.move(source, many, 1), UNKNOWN);
    }

    private static void source() {
        MoveMakers x = new MoveMakers();
        int[][] good = {{0, -7, -7}, {1, 99, 99}, {2, -1, -1}, {3, 3, 3}, {4, 3, 99}, {5, 0, 3}, {6, 0, -5}, {7, 15, 88},
            {8, 0, 7}, {9, 8, 2}, {10, 5, -3}, {7, 1, 0}};
        for (int s = 0; s < good.length; s++) {
            due.is("source " + s, x.source(good[s][0], good[s][1], good[s][2]), s);
        }
        due.is("count", x.count(1), 12);
        due.is("the 13th", x.source(0, 0, 0), ROOM);
        due.is("the 13th, joined of itself", x.source(8, 0, 12), UNKNOWN);
        due.is("the 13th, outside", x.source(7, 0, 0), OUTSIDE);
        due.is("count stays", x.count(1), 12);
    }

    private static void sourceOrderOfAnswers() {
        MoveMakers x = new MoveMakers();
        int[][] unknown = {{3, 4, 0}, {3, 0, 4}, {3, -1, 0}, {3, 0, -1}, {4, 4, 0}, {4, -1, 0}, {5, 4, 0}, {5, 0, 4},
            {5, 4, 4}, {6, 4, 0}, {6, -1, 0}, {8, 0, 0}, {9, 0, 0}, {9, 0, 3}, {3, NONE, 0}};
        for (int[] u : unknown) {
            due.is("unknown of " + u[0], x.source(u[0], u[1], u[2]), UNKNOWN);
        }
        int[][] outside = {{11, 0, 0}, {-1, 0, 0}, {Integer.MAX_VALUE, 0, 0}, {Integer.MIN_VALUE, 0, 0}, {7, 0, 0},
            {7, 16, 0}, {7, -1, 0}, {10, -1, 0}, {10, 6, 0}, {5, 2, 2}};
        for (int[] o : outside) {
            due.is("outside of " + o[0], x.source(o[0], o[1], o[2]), OUTSIDE);
        }
        due.is("nothing came", x.count(1), 0);
        x.source(0, 0, 0);
        due.is("joined of its own number", x.source(8, 0, 1), UNKNOWN);
        due.is("joined of its own number", x.source(8, 1, 0), UNKNOWN);
        due.is("filtered of its own number", x.source(9, 1, 0), UNKNOWN);
        due.is("b of filtered", x.source(9, 0, 3), OUTSIDE);
        due.is("b of filtered", x.source(9, 0, -1), OUTSIDE);
        due.is("deep 1", x.source(9, 0, 0), 1);
        due.is("deep 2", x.source(8, 0, 1), 2);
        due.is("deep 3", x.source(8, 2, 0), 3);
        due.is("deep 4, filtered", x.source(9, 3, 0), STATE);
        due.is("deep 4, joined", x.source(8, 3, 0), STATE);
        due.is("deep 4, joined", x.source(8, 0, 3), STATE);
        due.is("outside ahead of state", x.source(9, 3, 3), OUTSIDE);
        for (int s = 4; s < 12; s++) {
            x.source(1, 0, 0);
        }
        due.is("state ahead of room", x.source(9, 3, 0), STATE);
        due.is("room", x.source(9, 2, 0), ROOM);
    }

    private static void shares() {
        MoveMakers x = Scene.values(0);
        x.source(0, 0, 0);
        x.source(8, 0, 0);
        x.source(9, 0, 0);
        due.is("no such source", x.shares(3, 1, 1), UNKNOWN);
        due.is("of a joined one", x.shares(1, 1, 100), 1);
        due.is("of a joined one", x.shares(1, 100, 1), 1);
        for (int bad : new int[] {0, -1, 101, Integer.MIN_VALUE, Integer.MAX_VALUE}) {
            due.is("p", x.shares(1, bad, 1), OUTSIDE);
            due.is("q", x.shares(1, 1, bad), OUTSIDE);
            due.is("outside ahead of state", x.shares(0, bad, 1), OUTSIDE);
            due.is("unknown ahead of outside", x.shares(3, bad, 1), UNKNOWN);
        }
        due.is("of a change", x.shares(0, 1, 1), STATE);
        due.is("of a filtered one", x.shares(2, 1, 1), STATE);
        due.is("100 and 1 still hold", x.drawn(1, 100), 5);
        due.is("100 and 1 still hold", x.drawn(1, 99), 0);
    }

    private static void wrongInputs() {
        MoveMakers x = Scene.values(0);
        x.source(10, 0, 0);
        due.is("no such source", x.many(1), UNKNOWN);
        for (int bad : WRONG) {
            due.is("many", x.many(bad), UNKNOWN);
            due.is("shares", x.shares(bad, 1, 1), UNKNOWN);
            due.is("move, source", x.move(bad, 0, 0), UNKNOWN);
            due.is("move, m", x.move(0, bad, 0), UNKNOWN);
            due.is("move, m and what", x.move(0, bad, bad), UNKNOWN);
            due.is("move, what", x.move(0, 0, bad), OUTSIDE);
            due.is("drawn, source", x.drawn(bad, 0), UNKNOWN);
            due.is("drawn, source and n", x.drawn(bad, -1), UNKNOWN);
            due.is("drawn, n", x.drawn(0, Math.min(bad, -1)), OUTSIDE);
            due.is("does, source", x.does(bad, 0), UNKNOWN);
            due.is("does, m", x.does(0, bad), UNKNOWN);
        }
        due.is("move, what 4", x.move(0, 0, 4), OUTSIDE);
        due.is("move, m 1 and what 4", x.move(0, 1, 4), UNKNOWN);
        due.is("drawn, least n", x.drawn(0, Long.MIN_VALUE), OUTSIDE);
    }

    private static void changes() {
        MoveMakers x = Scene.values(1, 5, 0);
        x.source(0, 0, 0);
        moves("change", x, 0, 0, "0,0 0,2 0,3 0,4 0,5 1,0 1,1 1,2 1,3 1,4 2,1 2,2 2,3 2,4 2,5");
        x.pin(1, true);
        moves("change, one pinned", x, 0, 0, "0,0 0,2 0,3 0,4 0,5 2,1 2,2 2,3 2,4 2,5");
        moves("change of nothing", Scene.with(new MoveMakers(), 0, 0, 0), 0, 0, "");
    }

    private static void swaps() {
        MoveMakers x = Scene.values(1, 2, 1, 3);
        x.source(1, 0, 0);
        moves("swap", x, 0, 1, "0,1 0,3 1,2 1,3 2,3");
        x.pin(0, true);
        moves("swap, first pinned", x, 0, 1, "1,2 1,3 2,3");
        x.pin(3, true);
        moves("swap, last pinned too", x, 0, 1, "1,2");
    }

    private static void pillars() {
        MoveMakers x = Scene.values(4, 0, 4, 2);
        x.source(2, 0, 0);
        moves("pillar", x, 0, 2, "0,1 0,2 0,3 0,4 0,5 2,0 2,1 2,3 2,4 2,5 4,0 4,1 4,2 4,3 4,5");
        x.pin(2, true);
        moves("pillar, one of it pinned", x, 0, 2, "0,1 0,2 0,3 0,4 0,5 2,0 2,1 2,3 2,4 2,5");
        MoveMakers one = Scene.values(5, 0);
        one.source(2, 0, 0);
        moves("pillar of 5", one, 0, 2, "0,1 0,2 0,3 0,4 0,5 5,0 5,1 5,2 5,3 5,4");
        one.pin(0, true);
        moves("pillar, object 0 pinned", one, 0, 2, "0,1 0,2 0,3 0,4 0,5");
    }

    private static void insertsWithin() {
        MoveMakers x = Scene.lists(0, 4);
        x.source(3, 1, 1);
        moves("insert within", x, 0, 3, "0,1 0,2 0,3 1,0 1,2 1,3 2,0 2,1 2,3 3,0 3,1 3,2");
        x.pin(1, true);
        moves("insert within, 1 pinned", x, 0, 3, "2,3 3,2");
        x.pin(1, false);
        x.pin(3, true);
        moves("insert within, the last pinned", x, 0, 3, "0,1 0,2 1,0 1,2 2,0 2,1");
        x.pin(3, false);
        x.pin(0, true);
        moves("insert within, the first pinned", x, 0, 3, "1,2 1,3 2,1 2,3 3,1 3,2");
    }

    private static void insertsBetween() {
        MoveMakers x = Scene.lists(2, 1);
        x.source(3, 0, 1);
        x.source(3, 1, 0);
        x.source(3, 0, 3);
        moves("insert between", x, 0, 3, "0,0 0,1 1,0 1,1");
        moves("insert between, other way", x, 1, 3, "0,0 0,1 0,2");
        moves("insert into an empty one", x, 2, 3, "0,0 1,0");
        x.pin(0, true);
        moves("insert, first of a pinned", x, 0, 3, "1,0 1,1");
        moves("insert, first of b pinned", x, 1, 3, "0,1 0,2");
        x.pin(1, true);
        moves("insert, all of a pinned", x, 0, 3, "");
        moves("insert, all of b pinned", x, 1, 3, "0,2");
    }

    private static void reverses() {
        MoveMakers x = Scene.lists(4);
        x.source(4, 0, 0);
        moves("reverse", x, 0, 4, "0,1 0,2 0,3 1,2 1,3 2,3");
        x.pin(1, true);
        moves("reverse, 1 pinned (also in the middle)", x, 0, 4, "2,3");
        moves("reverse of one", Scene.with(Scene.lists(1), 4, 0, 0), 0, 4, "");
    }

    private static void crosses() {
        MoveMakers x = Scene.lists(2, 1);
        x.source(5, 0, 1);
        x.source(5, 2, 3);
        moves("cross", x, 0, 5, "0,0 0,1 1,0 1,1 2,0");
        moves("cross of empty ones", x, 1, 5, "");
        x.pin(0, true);
        moves("cross, first of a pinned", x, 0, 5, "1,0 1,1 2,0");
        x.pin(1, true);
        moves("cross, all of a pinned", x, 0, 5, "2,0");
        x.pin(2, true);
        moves("cross, all pinned", x, 0, 5, "");
    }

    private static void turns() {
        MoveMakers x = Scene.lists(4, 1);
        x.source(6, 0, 0);
        x.source(6, 1, 0);
        x.source(6, 2, 0);
        moves("turn", x, 0, 6, "1,0 2,0 3,0");
        moves("turn of one", x, 1, 6, "");
        moves("turn of none", x, 2, 6, "");
        x.pin(3, true);
        moves("turn, one pinned", x, 0, 6, "");
    }

    private static void nears() {
        MoveMakers x = new MoveMakers();
        x.object(0, 0, 0);
        x.object(1, 3, 4);
        x.object(0, 5, 0);
        x.object(2, 6, 0);
        x.source(7, 2, 0);
        x.source(7, 15, 0);
        // 0: 1 and 2 (both 25), 3; 1: 0, 2 (20), 3 (25): 2 0 3; 2: 3, 1, 0; 3: 2, 1, 0
        moves("near 2", x, 0, 7, "0,0 1,0 1,1 2,0 2,1 3,0 3,1");
        moves("near 15", x, 1, 7, "0,0 0,2 1,0 1,1 1,2 2,0 2,1 3,0 3,1 3,2");
        x.pin(1, true);
        moves("near 2, 1 pinned", x, 0, 7, "0,1 2,0 3,0 3,1");
        MoveMakers far = new MoveMakers();
        far.object(0, 0, 0);
        far.object(1, 100, 100);
        far.object(2, 100, 99);
        far.source(7, 1, 0);
        far.does(0, 0);
        due.is("the nearer one", far.objectAt(0, 0), 2);
    }

    private static void owns() {
        for (int sort = 0; sort < 6; sort++) {
            MoveMakers x = Scene.values(0, 1, 2);
            x.source(10, sort, 0);
            moves("own " + sort, x, 0, 10, "0,0 1,0 2,0");
            x.pin(1, true);
            moves("own, 1 pinned " + sort, x, 0, 10, "0,0 2,0");
            x.pin(1, false);
            x.pin(0, true);
            moves("own, 0 pinned " + sort, x, 0, 10, sort == 3 || sort == 5 ? "" : "1,0 2,0");
        }
    }

    private static void joinedAndFiltered() {
        MoveMakers x = Scene.values(1, 2);
        x.source(0, 0, 0);
        x.source(10, 0, 0);
        x.source(8, 1, 0);
        due.is("joined", x.many(2), 12);
        due.is("first of b, its sort", x.move(2, 2, 0), 0);
        due.is("first of b, its j", x.move(2, 2, 2), 0);
        due.is("last of a, its sort", x.move(2, 1, 0), 10);
        due.is("last of a, its i", x.move(2, 1, 1), 1);
        x.source(9, 0, 0);
        x.source(9, 0, 1);
        x.source(9, 0, 2);
        moves("filtered 0", x, 3, 0, "0,0 0,3 1,5");
        moves("filtered 1", x, 4, 0, "0,4 1,0 1,3");
        moves("filtered 2", x, 5, 0, "0,2 0,5 1,1 1,4");
        x.source(9, 4, 1);
        x.source(9, 4, 2);
        x.source(8, 3, 4);
        x.source(9, 8, 1);
        moves("filtered twice alike", x, 6, 0, "0,4 1,0 1,3");
        moves("filtered twice unlike", x, 7, 0, "");
        moves("joined of filtered", x, 8, 0, "0,0 0,3 1,5 0,4 1,0 1,3");
        moves("filtered of joined of filtered", x, 9, 0, "0,4 1,0 1,3");
    }

    private static void movesAreAsThingsAreThen() {
        MoveMakers x = Scene.values(1, 1);
        x.source(1, 0, 0);
        x.source(0, 0, 0);
        due.is("alike", x.many(0), 0);
        x.does(1, 0);
        due.is("unlike now", x.many(0), 1);
        x.object(4, 0, 0);
        due.is("one more", x.many(0), 3);
        x.undo();
        due.is("behind undo", x.many(0), 2);
    }

    private static void sixteenObjects() {
        MoveMakers x = Scene.lists(16);
        int[][] sources = {{0, 0, 0}, {1, 0, 0}, {2, 0, 0}, {3, 0, 0}, {3, 0, 1}, {3, 1, 0}, {4, 0, 0}, {5, 0, 1},
            {6, 0, 0}, {7, 15, 0}, {10, 3, 0}, {8, 0, 3}};
        int[] alike = {80, 0, 5, 240, 16, 0, 120, 16, 15, 0, 16, 320};
        for (int[] s : sources) {
            x.source(s[0], s[1], s[2]);
        }
        for (int s = 0; s < 12; s++) {
            due.is("sixteen alike, source " + s, x.many(s), alike[s]);
        }
        x.does(0, 79);
        due.is("one unlike, swaps", x.many(1), 15);
        due.is("one unlike, pillars", x.many(2), 10);
        due.is("one unlike, near", x.many(9), 30);
        due.is("all of them crossed", x.does(7, 0), 2);
        due.is("the last of the other list", x.listed(1, 15), 15);
        due.is("crossed back", x.many(7), 16);
        due.is("near, the last one", x.does(9, x.many(9) - 1), 3);
        due.is("its value went", x.objectAt(15, 0), 0);
        due.is("to the last of the others", x.objectAt(14, 0), 5);
        due.is("all of value 0", x.does(2, 0), 4);
        due.is("the last of them", x.objectAt(15, 0), 1);
        due.is("crossed once more", x.does(7, 0), 5);
        due.is("reversed", x.does(6, 14), 6);
        due.is("the last comes first", x.listed(0, 0), 15);
        due.is("turned", x.does(8, 14), 7);
        due.is("the last comes first again", x.listed(0, 0), 0);
    }

    private static void nothingIsLeftOfWhatWasCleared() {
        MoveMakers x = Scene.lists(8, 8);
        for (int o = 0; o < 16; o++) {
            x.pin(o, true);
        }
        x.clear();
        x.object(1, 0, 0);
        x.object(2, 9, 9);
        x.enlist(1, 0);
        x.enlist(0, 0);
        int[][] sources = {{0, 0, 0}, {1, 0, 0}, {2, 0, 0}, {3, 0, 0}, {3, 0, 1}, {4, 0, 0}, {5, 0, 1}, {6, 0, 0},
            {7, 15, 0}, {10, 0, 0}};
        int[] want = {10, 1, 10, 2, 2, 1, 2, 1, 2, 2};
        for (int s = 0; s < want.length; s++) {
            x.source(sources[s][0], sources[s][1], sources[s][2]);
            due.is("behind clear, source " + s, x.many(s), want[s]);
        }
    }

    private static void drawn() {
        MoveMakers x = Scene.values(0, 1);
        x.source(0, 0, 0);
        x.source(10, 0, 0);
        x.source(2, 0, 0);
        x.source(8, 0, 1);
        for (int n = 0; n < 25; n++) {
            due.is("change " + n, x.drawn(0, n), n % 10);
            due.is("joined, 1 and 1: " + n, x.drawn(3, n), n % 2 == 0 ? n / 2 % 10 : 10 + n / 2 % 2);
        }
        x.shares(3, 2, 3);
        for (int n = 0; n < 60; n++) {
            due.is("joined, 2 and 3: " + n, x.drawn(3, n), n % 5 < 2 ? n / 5 % 10 : 10 + n / 5 % 2);
        }
        long most = Long.MAX_VALUE;
        due.is("the greatest n", x.drawn(0, most), most % 10);
        due.is("the greatest n, joined", x.drawn(3, most), most % 5 < 2 ? most / 5 % 10 : 10 + most / 5 % 2);
        due.is("drawing does nothing", x.count(3), 0);
    }

    private static void drawnDeep() {
        MoveMakers x = Scene.values(0, 0);
        x.source(1, 0, 0);
        x.source(10, 0, 0);
        x.source(8, 0, 1);
        x.source(8, 1, 0);
        x.source(8, 0, 0);
        x.source(8, 2, 1);
        x.source(8, 4, 3);
        x.source(9, 5, 0);
        due.is("none", x.drawn(0, 5), NONE);
        due.is("none of both", x.drawn(4, 5), NONE);
        for (int n = 0; n < 12; n++) {
            due.is("a has none: " + n, x.drawn(2, n), n % 2);
            due.is("b has none: " + n, x.drawn(3, n), n % 2);
            due.is("both have some, a is joined: " + n, x.drawn(5, n), n % 2 == 0 ? n / 2 % 2 : 2 + n / 2 % 2);
            due.is("a is joined of none: " + n, x.drawn(6, n), n % 2);
            due.is("filtered of joined: " + n, x.drawn(7, n), n % 2);
        }
        x.clear();
        x.object(0, 0, 0);
        x.source(10, 0, 0);
        x.source(0, 0, 0);
        x.source(8, 0, 1);
        x.source(8, 2, 2);
        x.shares(2, 1, 2);
        x.shares(3, 3, 1);
        for (int n = 0; n < 60; n++) {
            int r = n / 4;
            int inner = r % 3 < 1 ? 0 : 1 + r / 3 % 5;
            due.is("joined of joined " + n, x.drawn(3, n), n % 4 < 3 ? inner : 6 + inner);
        }
        // three deep on either side, and past sources that have none
        x.source(8, 3, 0);
        x.source(8, 0, 3);
        x.source(1, 0, 0);
        x.source(8, 6, 2);
        x.source(8, 7, 6);
        for (int n = 0; n < 60; n++) {
            int inner = x.drawn(3, n / 2);
            due.is("three deep, a: " + n, x.drawn(4, n), n % 2 == 0 ? inner : 12);
            due.is("three deep, b: " + n, x.drawn(5, n), n % 2 == 0 ? 0 : 1 + inner);
            due.is("past none: " + n, x.drawn(8, n), x.drawn(2, n));
        }
    }
}
