/** Promises 12 to 14: moves are done, undone, judged. */
public final class DoingTest {
    private static final int UNKNOWN = -101, OUTSIDE = -102, STATE = -103, ROOM = -104, NONE = -109;
    private static final Due due = new Due("DoingTest");

    public static void main(String[] args) {
        doesValues();
        doesLists();
        doesOwn();
        throwing();
        room();
        undoes();
        undoWithNewObjects();
        undoAndPins();
        lazyUndo();
        judge();
        judgeLeavesAll();
        due.end();
    }

    private static void values(String what, MoveMakers x, int... want) {
        for (int o = 0; o < want.length; o++) {
            due.is(what + ": value of " + o, x.objectAt(o, 0), want[o]);
        }
    }

    private static void list(String what, MoveMakers x, int list, int... want) {
        for (int place = 0; place < want.length; place++) {
            due.is(what + ": list " + list + " at " + place, x.listed(list, place), want[place]);
            due.is(what + ": list of it", x.objectAt(want[place], 1), list);
            due.is(what + ": place of it", x.objectAt(want[place], 2), place);
        }
        due.is(what + ": end of list " + list, x.listed(list, want.length), NONE);
    }

    private static void doOne(String what, MoveMakers x, int i, int j) {
        int before = x.digest();
        due.is(what, x.does(0, Scene.at(x, 0, i, j)), 1);
        int after = x.digest();
        due.is(what + " undone", x.undo(), 0);
        due.is(what + " is as it was", x.digest(), before);
        x.does(0, Scene.at(x, 0, i, j));
        due.is(what + " again", x.digest(), after);
    }

    private static MoveMakers valuesAnd(int sort, int a) {
        MoveMakers x = Scene.values(2, 3, 2, 5);
        x.source(sort, a, 0);
        return x;
    }

    private static void doesValues() {
        MoveMakers x = valuesAnd(0, 0);
        doOne("change", x, 1, 0);
        values("change", x, 2, 0, 2, 5);
        x = valuesAnd(1, 0);
        doOne("swap", x, 1, 3);
        values("swap", x, 2, 5, 2, 3);
        x = valuesAnd(2, 0);
        doOne("pillar", x, 2, 5);
        values("pillar", x, 5, 3, 5, 5);
        x = valuesAnd(7, 3);
        doOne("near", x, 0, 2);
        values("near", x, 5, 3, 2, 2);
        x = valuesAnd(0, 0);
        due.is("no such source", x.does(1, 0), UNKNOWN);
        due.is("no such move", x.does(0, 20), UNKNOWN);
        due.is("no such move", x.does(0, -1), UNKNOWN);
        due.is("nothing is done", x.count(3), 0);
        x.source(8, 0, 0);
        x.source(9, 1, 1);
        due.is("a filtered, joined one", x.does(2, 0), 1);
        values("a filtered, joined one", x, 1, 3, 2, 5);
    }

    /** List 0: 0 1 2 3 4; list 1: 5 6 7. */
    private static MoveMakers listsAnd(int sort, int a, int b) {
        MoveMakers x = new MoveMakers();
        for (int o = 0; o < 8; o++) {
            x.object(0, 0, 0);
            x.enlist(o, o < 5 ? 0 : 1);
        }
        x.source(sort, a, b);
        return x;
    }

    private static void doesLists() {
        MoveMakers x = listsAnd(3, 0, 0);
        doOne("insert behind", x, 1, 3);
        list("insert behind", x, 0, 0, 2, 3, 1, 4);
        x = listsAnd(3, 0, 0);
        doOne("insert ahead", x, 4, 0);
        list("insert ahead", x, 0, 4, 0, 1, 2, 3);
        x = listsAnd(3, 0, 1);
        doOne("insert into another", x, 1, 1);
        list("insert into another, a", x, 0, 0, 2, 3, 4);
        list("insert into another, b", x, 1, 5, 1, 6, 7);
        x = listsAnd(3, 1, 0);
        doOne("insert at the end", x, 0, 5);
        list("insert at the end, b", x, 0, 0, 1, 2, 3, 4, 5);
        list("insert at the end, a", x, 1, 6, 7);
        x = listsAnd(4, 0, 0);
        doOne("reverse", x, 1, 4);
        list("reverse", x, 0, 0, 4, 3, 2, 1);
        x = listsAnd(4, 0, 0);
        doOne("reverse all", x, 0, 4);
        list("reverse all", x, 0, 4, 3, 2, 1, 0);
        x = listsAnd(5, 0, 1);
        doOne("cross", x, 3, 1);
        list("cross, a", x, 0, 0, 1, 2, 6, 7);
        list("cross, b", x, 1, 5, 3, 4);
        x = listsAnd(5, 1, 0);
        doOne("cross at an end", x, 3, 2);
        list("cross at an end, a", x, 1, 5, 6, 7, 2, 3, 4);
        list("cross at an end, b", x, 0, 0, 1);
        x = listsAnd(5, 0, 1);
        doOne("cross all", x, 0, 0);
        list("cross all, a", x, 0, 5, 6, 7);
        list("cross all, b", x, 1, 0, 1, 2, 3, 4);
        x = listsAnd(6, 0, 0);
        doOne("turn", x, 2, 0);
        list("turn", x, 0, 2, 3, 4, 0, 1);
        list("turn, the other", x, 1, 5, 6, 7);
    }

    private static void doesOwn() {
        int[] shared = {0, 5, 2, 1, 1, 1};
        for (int v = 0; v < 6; v++) {
            MoveMakers x = Scene.own(0, 4, v);
            doOne("up", x, 1, 0);
            values("up " + v, x, 4, (v + 1) % 6);
            x = Scene.own(1, 4, v);
            due.is("lazy", x.does(0, 1), 1);
            values("lazy " + v, x, 4, (v + 1) % 6);
            if (v > 0) {
                x = Scene.own(2, 4, v);
                doOne("shared", x, 1, 0);
                values("shared " + v, x, 4, shared[v]);
                x = Scene.own(5, 4, v);
                doOne("cousin", x, 1, 0);
                values("cousin " + v, x, 5, v - 1);
                x = Scene.own(5, v, 4);
                doOne("cousin of 0", x, 0, 0);
                values("cousin of 0, " + v, x, v - 1, 4);
            }
            if (v > 1) {
                x = Scene.own(4, 4, v);
                doOne("short", x, 1, 0);
                values("short " + v, x, 4, v - 2);
            }
        }
        MoveMakers x = Scene.own(3, 4, 2, 1, 3);
        doOne("far", x, 1, 0);
        values("far", x, 0, 3, 1, 3);
        x = Scene.own(3, 4, 0, 1, 3);
        doOne("far, itself", x, 1, 0);
        values("far, itself", x, 0, 0, 1, 3);
        x = Scene.own(3, 2, 0, 1, 3);
        doOne("far of 0", x, 0, 0);
        values("far of 0", x, 1, 0, 1, 3);
        x = Scene.own(3, 0, 5);
        doOne("far of 0, itself", x, 0, 0);
        values("far of 0, itself", x, 0, 5);
    }

    private static void throwsOne(String what, MoveMakers x, int m, int want, int... values) {
        due.is(what, x.does(0, m), want);
        values(what, x, values);
        due.is(what + " is not kept", x.count(2), 0);
        due.is(what + " is not done", x.count(3), 0);
        due.is(what + " threw", x.count(4), 1);
        due.is(what + " can't be undone", x.undo(), STATE);
    }

    private static void throwing() {
        throwsOne("shared 0", Scene.own(2, 4, 0), 1, -7, 4, 0);
        throwsOne("far", Scene.own(3, 4, 1), 1, -4, 4, 1);
        throwsOne("far of 0", Scene.own(3, 2, 1), 0, -4, 2, 1);
        throwsOne("short 0", Scene.own(4, 4, 0), 1, -5, 4, 0);
        throwsOne("short 1", Scene.own(4, 4, 1), 1, -5, 4, 1);
        throwsOne("cousin 0", Scene.own(5, 4, 0), 1, -2, 4, 0);
        throwsOne("cousin of 0", Scene.own(5, 0, 3), 0, -2, 0, 3);
    }

    private static void room() {
        MoveMakers x = Scene.own(0, 0, 0);
        x.source(10, 2, 0);
        for (int n = 1; n <= 30; n++) {
            due.is("does " + n, x.does(0, 0), n);
        }
        values("30 ups", x, 0, 0);
        due.is("the 31st", x.does(0, 0), ROOM);
        due.is("the 31st, that would throw", x.does(1, 0), ROOM);
        due.is("the 31st, unknown", x.does(0, 2), UNKNOWN);
        due.is("none threw", x.count(4), 0);
        due.is("30 done", x.count(3), 30);
        due.is("judged all the same", x.judge(0), 0);
        due.is("judged all the same", x.judge(1), 1);
        for (int n = 29; n >= 0; n--) {
            due.is("undo " + n, x.undo(), n);
            due.is("value", x.objectAt(0, 0), n % 6);
        }
        due.is("undo of none", x.undo(), STATE);
        due.is("room again", x.does(0, 0), 1);
        due.is("31 done", x.count(3), 31);
    }

    private static void undoes() {
        MoveMakers x = new MoveMakers();
        for (int o = 0; o < 8; o++) {
            x.object(o % 6, o, 3 * o);
            x.enlist(o, o % 3);
        }
        int[][] sources = {{0, 0, 0}, {1, 0, 0}, {2, 0, 0}, {3, 0, 1}, {3, 2, 2}, {4, 0, 0}, {5, 1, 2}, {6, 0, 0},
            {7, 3, 0}, {10, 0, 0}, {10, 5, 0}, {10, 3, 0}};
        for (int[] s : sources) {
            x.source(s[0], s[1], s[2]);
        }
        int[] digests = new int[31];
        int kept = 0;
        for (int n = 0; n < 60 && kept < 30; n++) {
            digests[kept] = x.digest();
            int answer = x.does(n % 12, x.drawn(n % 12, 7 * n));
            if (answer >= 0) {
                kept++;
                due.is("kept", answer, kept);
            } else {
                due.is("thrown: all is as it was", x.digest(), digests[kept]);
            }
        }
        due.is("many were done", kept, 30);
        while (kept > 0) {
            kept--;
            due.is("undo", x.undo(), kept);
            due.is("digest ahead of " + kept, x.digest(), digests[kept]);
        }
    }

    private static void undoWithNewObjects() {
        MoveMakers x = Scene.own(1, 3);
        x.source(0, 0, 0);
        due.is("change of 0 to 5", x.does(1, 4), 1);
        x.object(0, 0, 0);
        due.is("lazy on the new one", x.does(0, 1), 2);
        x.undo();
        values("lazy: 1 stays", x, 5, 1);
        x.undo();
        values("the new one's value stays", x, 3, 1);
        due.is("in no list", x.objectAt(1, 1), NONE);
    }

    private static void undoAndPins() {
        MoveMakers x = Scene.own(0, 3);
        x.does(0, 0);
        x.pin(0, true);
        due.is("pinned ones are undone all the same", x.undo(), 0);
        values("undone", x, 3);
        due.is("the pin stays", x.objectAt(0, 3), 1);
    }

    private static void lazyUndo() {
        for (int v = 0; v < 6; v++) {
            MoveMakers x = Scene.own(1, 4, v);
            x.does(0, 1);
            due.is("undo of lazy", x.undo(), 0);
            values("lazy " + v, x, 4, v == 0 ? 1 : v);
        }
        MoveMakers twice = Scene.own(1, 5);
        twice.does(0, 0);
        twice.does(0, 0);
        values("two of them", twice, 1);
        twice.undo();
        values("the second: 1 stays", twice, 1);
        twice.undo();
        values("the first: 1 stays too", twice, 1);
        MoveMakers joined = Scene.own(1, 0);
        joined.source(9, 0, 0);
        joined.source(8, 1, 1);
        joined.does(2, 1);
        joined.undo();
        values("lazy through others", joined, 1);
        lazyAmongOthers();
    }

    private static void lazyAmongOthers() {
        MoveMakers x = Scene.own(1, 3, 0);
        x.source(0, 0, 0);
        x.does(1, 0);
        x.does(0, 1);
        x.undo();
        values("forgotten", x, 0, 1);
        x.undo();
        values("undoing another one brings all back", x, 3, 0);
        x = Scene.own(1, 3, 0);
        x.does(0, 0);
        x.does(0, 1);
        x.undo();
        x.undo();
        values("undoing a lazy one touches its object alone", x, 3, 1);
    }

    private static void judge() {
        for (int sort = 0; sort < 6; sort++) {
            due.is("judge with no objects", new MoveMakers().judge(sort), 0);
        }
        for (int bad : new int[] {-1, 6, NONE, Integer.MAX_VALUE, Integer.MIN_VALUE}) {
            due.is("judge of no sort", Scene.values(0).judge(bad), OUTSIDE);
        }
        due.is("up", Scene.values(0, 1, 5).judge(0), 0);
        due.is("lazy, none of 0", Scene.values(1, 2, 3, 4, 5).judge(1), 0);
        due.is("lazy, the first of 0", Scene.values(1, 0, 0).judge(1), 2);
        due.is("shared", Scene.values(1, 5).judge(2), 0);
        due.is("shared, one of 0", Scene.values(1, 0).judge(2), -7);
        due.is("far", Scene.values(1, 0, 0).judge(3), 0);
        due.is("far: as it was behind each", Scene.values(2, 1, 0).judge(3), 0);
        due.is("far, too far", Scene.values(1, 0, 1).judge(3), -4);
        due.is("short", Scene.values(2, 5).judge(4), 0);
        due.is("short, one of 1", Scene.values(2, 1).judge(4), -5);
        due.is("cousin", Scene.values(1, 5).judge(5), 0);
        due.is("cousin: as it was behind each", Scene.values(0, 5).judge(5), -2);
        due.is("cousin, one of 0", Scene.values(1, 0).judge(5), -2);
        MoveMakers x = Scene.values(1, 0);
        x.pin(0, true);
        x.pin(1, true);
        due.is("pinned ones, too", x.judge(1), 2);
        due.is("pinned ones, too", x.judge(5), -2);
        due.is("pinned ones, too", x.judge(2), -7);
    }

    private static void judgeLeavesAll() {
        MoveMakers x = Scene.own(0, 0, 3, 1);
        x.enlist(1, 2);
        x.does(0, 1);
        int before = x.digest();
        for (int sort = 0; sort < 6; sort++) {
            x.judge(sort);
            due.is("digest behind judge " + sort, x.digest(), before);
        }
        due.is("kept", x.count(2), 1);
        due.is("done", x.count(3), 1);
        due.is("threw", x.count(4), 0);
        x.undo();
        values("undone", x, 0, 3, 1);
    }
}
