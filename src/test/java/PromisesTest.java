/**
 * The document's promises, sentence by sentence: each answer to a wrong call, each edge that a promise names.
 * A refused call changes nothing; so says the picture of all that can be asked.
 */
public final class PromisesTest {
    private static final int UNKNOWN = -101, OUTSIDE = -102, STATE = -103, ROOM = -104, NONE = -109;
    private static final Due due = new Due("PromisesTest");

    public static void main(String[] args) {
        aNewObject();
        object();
        enlist();
        pin();
        objectAt();
        listed();
        source();
        shares();
        many();
        move();
        drawn();
        does();
        undo();
        judge();
        digest();
        count();
        clear();
        due.end();
    }

    private static final String NOTHING = "counts 0 0 0 0 0; objects ; objects ; objects ; objects "
        + "; list ; list ; list ; list ; digests 18070225";

    /** 1: "No OBJECTS, no SOURCES; LISTS are empty." */
    private static void aNewObject() {
        due.same("a new one", Scene.picture(new MoveMakers()), NOTHING);
        MoveMakers x = new MoveMakers();
        due.is("no object 0", x.pin(0, true), UNKNOWN);
        due.is("no source 0", x.many(0), UNKNOWN);
        due.is("nothing in list 3", x.listed(3, 0), NONE);
    }

    /** 2: "An OBJECT: its number. OUTSIDE; ROOM." */
    private static void object() {
        due.is("the first", new MoveMakers().object(0, 0, 0), 0);
        due.is("the next", Scene.busy().object(5, 100, 100), 5);
        for (int wild : Scene.WILD) {
            due.refused("value " + wild, Scene::busy, x -> x.object(wild, 0, 0), OUTSIDE);
            due.refused("x " + wild, Scene::busy, x -> x.object(0, wild, 0), OUTSIDE);
            due.refused("y " + wild, Scene::busy, x -> x.object(0, 0, wild), OUTSIDE);
        }
        MoveMakers fifteen = Scene.lists(15);
        due.is("the sixteenth", fifteen.object(0, 0, 0), 15);
        due.is("the seventeenth", fifteen.object(0, 0, 0), ROOM);
        due.refused("the seventeenth", Scene::full, x -> x.object(5, 100, 100), ROOM);
    }

    private static void enlist() {
        enlistBehind();
        enlistIntoNone();
        enlistUnknown();
        enlistSomethingIsDone();
    }

    /** 3: "An OBJECT comes behind a LIST .., out of where it was: 1." */
    private static void enlistBehind() {
        MoveMakers x = Scene.lists(3, 1);
        due.is("the first behind its own list", x.enlist(0, 0), 1);
        due.same("list 0", Scene.list(x, 0), "1 2 0");
        due.is("the last behind its own list", x.enlist(0, 0), 1);
        due.same("list 0", Scene.list(x, 0), "1 2 0");
        due.is("the middle one behind another", x.enlist(2, 1), 1);
        due.same("list 0", Scene.list(x, 0), "1 0");
        due.same("list 1", Scene.list(x, 1), "3 2");
        due.is("into an empty one", x.enlist(1, 3), 1);
        due.same("list 3", Scene.list(x, 3), "1");
        due.is("out of a list of one", x.enlist(1, 2), 1);
        due.same("list 3", Scene.list(x, 3), "");
        due.is("places move up", x.objectAt(0, 2), 0);
    }

    /** "(NONE: into none)" */
    private static void enlistIntoNone() {
        MoveMakers x = Scene.lists(2);
        due.is("out of a list", x.enlist(0, NONE), 1);
        due.is("its list", x.objectAt(0, 1), NONE);
        due.is("its place", x.objectAt(0, 2), NONE);
        due.same("list 0", Scene.list(x, 0), "1");
        due.is("out of none", x.enlist(0, NONE), 1);
        due.is("its list", x.objectAt(0, 1), NONE);
        due.is("back", x.enlist(0, 0), 1);
        due.same("list 0", Scene.list(x, 0), "1 0");
    }

    /** "UNKNOWN" */
    private static void enlistUnknown() {
        due.refused("one behind the last object", Scene::idle, x -> x.enlist(5, 0), UNKNOWN);
        due.refused("object NONE", Scene::idle, x -> x.enlist(NONE, 0), UNKNOWN);
        due.refused("object 16 of 16", Scene::full, x -> x.enlist(16, 0), UNKNOWN);
        due.refused("list 4", Scene::idle, x -> x.enlist(0, 4), UNKNOWN);
        for (int wild : Scene.WILD) {
            due.refused("object " + wild, Scene::idle, x -> x.enlist(wild, 0), UNKNOWN);
            due.refused("object " + wild + " into none", Scene::idle, x -> x.enlist(wild, NONE), UNKNOWN);
            due.refused("list " + wild, Scene::idle, x -> x.enlist(0, wild), UNKNOWN);
        }
        due.refused("of nothing", MoveMakers::new, x -> x.enlist(0, 0), UNKNOWN);
    }

    /** "STATE: something is DONE, that could be undone." */
    private static void enlistSomethingIsDone() {
        due.refused("two are kept", Scene::busy, x -> x.enlist(4, 0), STATE);
        due.refused("two are kept, into none", Scene::busy, x -> x.enlist(4, NONE), STATE);
        due.refused("30 are kept", Scene::full, x -> x.enlist(0, 0), STATE);
        due.is("one has thrown, none is kept", Scene.idle().enlist(4, 0), 1);
        MoveMakers x = Scene.busy();
        x.undo();
        due.is("one is kept still", x.enlist(4, 0), STATE);
        x.undo();
        due.is("all are undone", x.enlist(4, 0), 1);
        MoveMakers judged = Scene.idle();
        judged.judge(1);
        due.is("judging is not doing", judged.enlist(4, 0), 1);
    }

    /** 4: "PINNED, or not: 1 if it was, else 0. UNKNOWN." */
    private static void pin() {
        MoveMakers x = Scene.values(1);
        due.is("it was not", x.pin(0, false), 0);
        due.is("it was not", x.pin(0, true), 0);
        due.is("it was", x.pin(0, true), 1);
        due.is("it is", x.objectAt(0, 3), 1);
        due.is("it was", x.pin(0, false), 1);
        due.is("it is not", x.objectAt(0, 3), 0);
        due.is("with moves kept", Scene.full().pin(15, true), 0);
        due.refused("one behind the last", Scene::busy, y -> y.pin(5, true), UNKNOWN);
        due.refused("object NONE", Scene::busy, y -> y.pin(NONE, true), UNKNOWN);
        due.refused("object 16", Scene::full, y -> y.pin(16, false), UNKNOWN);
        for (int wild : Scene.WILD) {
            due.refused("object " + wild, Scene::busy, y -> y.pin(wild, false), UNKNOWN);
        }
    }

    /** 5: "VALUE (what = 0), LIST (1; NONE), place there (2; NONE), whether PINNED (3). UNKNOWN; OUTSIDE." */
    private static void objectAt() {
        int[][] want = {{3, 0, 0, 0}, {0, 0, 1, 0}, {5, 0, 2, 0}, {1, 1, 0, 1}, {1, NONE, NONE, 0}};
        MoveMakers x = Scene.idle();
        for (int o = 0; o < 5; o++) {
            for (int what = 0; what < 4; what++) {
                due.is("objectAt(" + o + ", " + what + ")", x.objectAt(o, what), want[o][what]);
            }
        }
        due.refused("object 5", Scene::busy, y -> y.objectAt(5, 0), UNKNOWN);
        due.refused("object NONE", Scene::busy, y -> y.objectAt(NONE, 0), UNKNOWN);
        due.refused("object 16", Scene::full, y -> y.objectAt(16, 3), UNKNOWN);
        due.refused("what 4", Scene::busy, y -> y.objectAt(0, 4), OUTSIDE);
        due.refused("what NONE", Scene::busy, y -> y.objectAt(0, NONE), OUTSIDE);
        for (int wild : Scene.WILD) {
            due.refused("object " + wild, Scene::busy, y -> y.objectAt(wild, 0), UNKNOWN);
            due.refused("what " + wild, Scene::busy, y -> y.objectAt(0, wild), OUTSIDE);
        }
    }

    /** 6: "The OBJECT at a place of a LIST. UNKNOWN; NONE: there is none." */
    private static void listed() {
        due.is("the first", Scene.lists(0, 0, 0, 16).listed(3, 0), 0);
        due.is("the last", Scene.lists(0, 0, 0, 16).listed(3, 15), 15);
        due.refused("behind sixteen", () -> Scene.lists(0, 0, 0, 16), x -> x.listed(3, 16), NONE);
        due.refused("behind the last", Scene::busy, x -> x.listed(0, 3), NONE);
        due.refused("of an empty list", Scene::busy, x -> x.listed(2, 0), NONE);
        due.refused("list 4", Scene::busy, x -> x.listed(4, 0), UNKNOWN);
        due.refused("list NONE, where object 4 is", Scene::busy, x -> x.listed(NONE, NONE), UNKNOWN);
        due.refused("place NONE", Scene::busy, x -> x.listed(0, NONE), NONE);
        for (int wild : Scene.WILD) {
            due.refused("list " + wild, Scene::busy, x -> x.listed(wild, 0), UNKNOWN);
            due.refused("place " + wild, Scene::busy, x -> x.listed(0, wild), NONE);
        }
    }

    private static void source() {
        due.is("the first", new MoveMakers().source(0, 0, 0), 0);
        due.is("the next", Scene.busy().source(10, 5, 0), 9);
        sourceUnknownLists();
        sourceUnknownSources();
        sourceOutside();
        sourceTooDeep();
        sourceNoRoom();
        sourceNotLookedAt();
    }

    /** 7: "UNKNOWN: LISTS (3 to 6)" */
    private static void sourceUnknownLists() {
        for (int sort = 3; sort <= 6; sort++) {
            int s = sort;
            due.is("the greatest lists of " + sort, Scene.busy().source(sort, 3, 2), 9);
            due.is("the least list of " + sort, Scene.busy().source(sort, 0, 1), 9);
            due.refused("a 4 of " + sort, Scene::busy, x -> x.source(s, 4, 0), UNKNOWN);
            due.refused("a NONE of " + sort, Scene::busy, x -> x.source(s, NONE, 0), UNKNOWN);
            for (int wild : Scene.WILD) {
                due.refused("a " + wild + " of " + sort, Scene::busy, x -> x.source(s, wild, 0), UNKNOWN);
            }
        }
        for (int sort : new int[] {3, 5}) {
            due.is("the greatest b of " + sort, Scene.busy().source(sort, 0, 3), 9);
            due.is("the least b of " + sort, Scene.busy().source(sort, 3, 0), 9);
            due.refused("b 4 of " + sort, Scene::busy, x -> x.source(sort, 0, 4), UNKNOWN);
            due.refused("b NONE of " + sort, Scene::busy, x -> x.source(sort, 0, NONE), UNKNOWN);
            for (int wild : Scene.WILD) {
                due.refused("b " + wild + " of " + sort, Scene::busy, x -> x.source(sort, 0, wild), UNKNOWN);
            }
        }
    }

    /** "SOURCES (8, 9: also one that is not less)" */
    private static void sourceUnknownSources() {
        for (int wrong : new int[] {9, 10, 11, 12, NONE}) {
            due.refused("a " + wrong + " of joined", Scene::busy, x -> x.source(8, wrong, 0), UNKNOWN);
            due.refused("b " + wrong + " of joined", Scene::busy, x -> x.source(8, 0, wrong), UNKNOWN);
            due.refused("a " + wrong + " of filtered", Scene::busy, x -> x.source(9, wrong, 0), UNKNOWN);
        }
        for (int wild : Scene.WILD) {
            due.refused("a " + wild + " of joined", Scene::busy, x -> x.source(8, wild, 0), UNKNOWN);
            due.refused("b " + wild + " of joined", Scene::busy, x -> x.source(8, 0, wild), UNKNOWN);
            due.refused("a " + wild + " of filtered", Scene::busy, x -> x.source(9, wild, 0), UNKNOWN);
        }
        due.refused("joined of nothing", MoveMakers::new, x -> x.source(8, 0, 0), UNKNOWN);
        due.refused("filtered of nothing", MoveMakers::new, x -> x.source(9, 0, 0), UNKNOWN);
    }

    /** "OUTSIDE: the sort, a of 7 (1 to 15), of 10 (0 to 5), b of 9 (0 to 2), a and b alike of 5" */
    private static void sourceOutside() {
        int[][] least = {{0, 0, 0}, {7, 1, 0}, {10, 0, 0}, {9, 0, 0}};
        int[][] most = {{10, 0, 0}, {7, 15, 0}, {10, 5, 0}, {9, 0, 2}};
        int[][] outside = {{11, 0, 0}, {7, 0, 0}, {7, 16, 0}, {10, 6, 0}, {9, 0, 3}, {5, 0, 0}, {5, 1, 1}, {5, 2, 2},
            {5, 3, 3}, {NONE, 0, 0}, {7, NONE, 0}, {10, NONE, 0}, {9, 0, NONE}};
        for (int[] s : least) {
            due.is("the least of " + s[0], Scene.busy().source(s[0], s[1], s[2]), 9);
        }
        for (int[] s : most) {
            due.is("the most of " + s[0], Scene.busy().source(s[0], s[1], s[2]), 9);
        }
        for (int[] s : outside) {
            due.refused("source(" + s[0] + ", " + s[1] + ", " + s[2] + ")", Scene::busy,
                x -> x.source(s[0], s[1], s[2]), OUTSIDE);
        }
        for (int wild : Scene.WILD) {
            due.refused("sort " + wild, Scene::busy, x -> x.source(wild, 0, 0), OUTSIDE);
            due.refused("sort " + wild + " of wild ones", Scene::busy, x -> x.source(wild, wild, wild), OUTSIDE);
            due.refused("near " + wild, Scene::busy, x -> x.source(7, wild, 0), OUTSIDE);
            due.refused("own " + wild, Scene::busy, x -> x.source(10, wild, 0), OUTSIDE);
            due.refused("filtered by " + wild, Scene::busy, x -> x.source(9, 0, wild), OUTSIDE);
        }
    }

    /** "STATE: deeper than 3" */
    private static void sourceTooDeep() {
        due.is("3 deep", Scene.busy().source(9, 6, 0), 9);
        due.refused("4 deep, filtered", Scene::busy, x -> x.source(9, 7, 0), STATE);
        due.refused("4 deep by a", Scene::busy, x -> x.source(8, 7, 0), STATE);
        due.refused("4 deep by b", Scene::busy, x -> x.source(8, 0, 7), STATE);
    }

    /** "ROOM" */
    private static void sourceNoRoom() {
        MoveMakers x = Scene.values(2);
        for (int s = 0; s < 12; s++) {
            due.is("source " + s, x.source(s % 3, 0, 0), s);
        }
        due.is("the thirteenth", x.source(0, 0, 0), ROOM);
        due.is("the thirteenth", x.source(8, 11, 10), ROOM);
        int[][] good = {{0, 0, 0}, {1, 0, 0}, {2, 0, 0}, {3, 0, 0}, {4, 0, 0}, {5, 0, 1}, {6, 0, 0}, {7, 1, 0},
            {8, 11, 7}, {9, 7, 2}, {10, 0, 0}};
        for (int[] s : good) {
            due.refused("a thirteenth of sort " + s[0], Scene::full, full -> full.source(s[0], s[1], s[2]), ROOM);
        }
    }

    /** "(What a sort does not name is not looked at.)" */
    private static void sourceNotLookedAt() {
        for (int wild : new int[] {-1, 4, 12, 99, NONE, Integer.MIN_VALUE, Integer.MAX_VALUE}) {
            for (int sort = 0; sort <= 2; sort++) {
                due.is("a and b of " + sort, Scene.busy().source(sort, wild, wild), 9);
            }
            for (int sort : new int[] {4, 6, 7, 10}) {
                due.is("b of " + sort, Scene.busy().source(sort, 1, wild), 9);
            }
        }
        due.is("a and b alike of 3", Scene.busy().source(3, 2, 2), 9);
        due.is("a and b alike of 8", Scene.busy().source(8, 2, 2), 9);
    }

    /** 8: "Shares of a JOINED SOURCE: 1. UNKNOWN; OUTSIDE; STATE: it is none." */
    private static void shares() {
        for (int share : new int[] {1, 2, 99, 100}) {
            due.is("p " + share, Scene.busy().shares(5, share, 1), 1);
            due.is("q " + share, Scene.busy().shares(5, 1, share), 1);
        }
        for (int wrong : new int[] {0, 101, NONE}) {
            due.refused("p " + wrong, Scene::busy, x -> x.shares(5, wrong, 1), OUTSIDE);
            due.refused("q " + wrong, Scene::busy, x -> x.shares(5, 1, wrong), OUTSIDE);
        }
        for (int wild : Scene.WILD) {
            due.refused("source " + wild, Scene::busy, x -> x.shares(wild, 1, 1), UNKNOWN);
            due.refused("p " + wild, Scene::busy, x -> x.shares(5, wild, 1), OUTSIDE);
            due.refused("q " + wild, Scene::busy, x -> x.shares(5, 1, wild), OUTSIDE);
        }
        due.refused("source 9", Scene::busy, x -> x.shares(9, 1, 1), UNKNOWN);
        due.refused("source 12", Scene::full, x -> x.shares(12, 1, 1), UNKNOWN);
        for (int s : new int[] {0, 1, 2, 3, 4, 6, 8}) {
            due.refused("source " + s + " is not joined", Scene::busy, x -> x.shares(s, 1, 1), STATE);
        }
        for (int s : new int[] {3, 4, 5, 11}) {
            due.refused("source " + s + " is not joined", Scene::full, x -> x.shares(s, 100, 100), STATE);
        }
    }

    /** 9: "How many MOVES it has now. UNKNOWN." */
    private static void many() {
        for (int sort = 0; sort <= 10; sort++) {
            MoveMakers x = Scene.with(new MoveMakers(), 0, 0, 0);
            due.is("source 1", x.source(sort, sort == 8 || sort == 9 ? 0 : 1, 0), 1);
            due.is("none of sort " + sort, x.many(1), 0);
        }
        MoveMakers x = Scene.lists(16);
        int[][] sources = {{0, 0, 0}, {3, 0, 0}, {4, 0, 0}, {8, 0, 1}, {8, 3, 3}, {8, 4, 4}};
        int[] most = {80, 240, 120, 320, 640, 1280};
        for (int s = 0; s < most.length; s++) {
            x.source(sources[s][0], sources[s][1], sources[s][2]);
            due.is("the most of source " + s, x.many(s), most[s]);
        }
        due.is("the last of the most", x.move(5, 1279, 1), 15);
        due.is("behind it", x.move(5, 1280, 1), UNKNOWN);
        due.refused("source 9", Scene::busy, y -> y.many(9), UNKNOWN);
        due.refused("source 12", Scene::full, y -> y.many(12), UNKNOWN);
        due.refused("source NONE", Scene::busy, y -> y.many(NONE), UNKNOWN);
        for (int wild : Scene.WILD) {
            due.refused("source " + wild, Scene::busy, y -> y.many(wild), UNKNOWN);
        }
        manyNow();
    }

    /** "now" */
    private static void manyNow() {
        MoveMakers x = Scene.with(Scene.with(new MoveMakers(), 0, 0, 0), 6, 0, 0);
        due.is("no object", x.many(0), 0);
        x.object(1, 0, 0);
        due.is("an object more", x.many(0), 5);
        x.pin(0, true);
        due.is("pinned", x.many(0), 0);
        x.pin(0, false);
        due.is("no more", x.many(0), 5);
        x.object(1, 0, 0);
        x.enlist(0, 0);
        due.is("a list of one", x.many(1), 0);
        x.enlist(1, 0);
        due.is("a list of two", x.many(1), 1);
    }

    /** 10: "its sort (what = 0; of JOINED, FILTERED of those they are of), i (1), j (2), k (3). UNKNOWN; OUTSIDE." */
    private static void move() {
        MoveMakers x = Scene.idle();
        due.is("the sort of joined, a", x.move(5, 0, 0), 0);
        due.is("the last of a", x.move(5, 19, 0), 0);
        due.is("the sort of joined, b", x.move(5, 20, 0), 10);
        due.is("the last of b", x.move(5, 23, 0), 10);
        due.is("its i", x.move(5, 23, 1), 4);
        due.is("behind the last", x.move(5, 24, 0), UNKNOWN);
        due.is("the sort of filtered", x.move(6, 0, 0), 0);
        due.is("the sort of its last", x.move(6, x.many(6) - 1, 0), 10);
        due.is("the sort of the deepest", x.move(7, 0, 0), 0);
        due.refused("what 4", Scene::busy, y -> y.move(0, 0, 4), OUTSIDE);
        due.refused("what NONE", Scene::busy, y -> y.move(0, 0, NONE), OUTSIDE);
        due.refused("source 9", Scene::busy, y -> y.move(9, 0, 0), UNKNOWN);
        due.refused("source NONE", Scene::busy, y -> y.move(NONE, 0, 0), UNKNOWN);
        due.refused("source 12", Scene::full, y -> y.move(12, 0, 0), UNKNOWN);
        due.refused("m as many as there are", Scene::busy, y -> y.move(0, 20, 0), UNKNOWN);
        due.refused("m NONE", Scene::busy, y -> y.move(0, NONE, 0), UNKNOWN);
        for (int wild : Scene.WILD) {
            due.refused("source " + wild, Scene::busy, y -> y.move(wild, 0, 0), UNKNOWN);
            due.refused("m " + wild, Scene::busy, y -> y.move(0, wild, 0), UNKNOWN);
            due.refused("m " + wild + " of joined", Scene::busy, y -> y.move(5, wild, 0), UNKNOWN);
            due.refused("what " + wild, Scene::busy, y -> y.move(0, 0, wild), OUTSIDE);
        }
    }

    /** 11: "Which MOVE is DRAWN. UNKNOWN; OUTSIDE: n below 0; NONE." */
    private static void drawn() {
        due.is("by 0", Scene.busy().drawn(0, 0), 0);
        due.refused("by -1", Scene::busy, x -> x.drawn(5, -1), OUTSIDE);
        due.refused("by the least", Scene::busy, x -> x.drawn(5, Long.MIN_VALUE), OUTSIDE);
        due.refused("source 9", Scene::busy, x -> x.drawn(9, 0), UNKNOWN);
        due.refused("source 12", Scene::full, x -> x.drawn(12, 0), UNKNOWN);
        due.refused("source NONE", Scene::busy, x -> x.drawn(NONE, 0), UNKNOWN);
        for (int wild : Scene.WILD) {
            due.refused("source " + wild, Scene::busy, x -> x.drawn(wild, 0), UNKNOWN);
        }
        due.refused("none", () -> Scene.with(new MoveMakers(), 10, 0, 0), x -> x.drawn(0, 0), NONE);
        due.refused("drawing changes nothing", Scene::busy, x -> x.drawn(8, 7) < 0 ? 1 : 0, 0);
        drawnIsThere();
    }

    /** What is drawn is a move that there is, by any n. */
    private static void drawnIsThere() {
        MoveMakers x = Scene.full();
        long[] numbers = {0, 1, 99, 101, Integer.MAX_VALUE, Long.MAX_VALUE - 1, Long.MAX_VALUE};
        for (int s = 0; s < 12; s++) {
            int many = x.many(s);
            for (long n : numbers) {
                int m = x.drawn(s, n);
                due.holds("source " + s + " by " + n + ": " + m, m >= 0 && m < many);
            }
        }
    }

    /** 12: "A MOVE is DONE: how many are kept; -1 less its CAUSE, if it throws. UNKNOWN; ROOM." */
    private static void does() {
        due.is("the third", Scene.busy().does(0, 0), 3);
        due.is("the last one of a source", Scene.busy().does(0, 19), 3);
        due.refused("m as many as there are", Scene::busy, x -> x.does(0, 20), UNKNOWN);
        due.refused("m NONE", Scene::busy, x -> x.does(0, NONE), UNKNOWN);
        due.refused("source 9", Scene::busy, x -> x.does(9, 0), UNKNOWN);
        due.refused("source NONE", Scene::busy, x -> x.does(NONE, 0), UNKNOWN);
        for (int wild : Scene.WILD) {
            due.refused("source " + wild, Scene::busy, x -> x.does(wild, 0), UNKNOWN);
            due.refused("m " + wild, Scene::busy, x -> x.does(0, wild), UNKNOWN);
        }
        for (int s = 0; s < 12; s++) {
            int source = s;
            due.refused("the 31st, of source " + s, Scene::full, x -> x.does(source, 0), ROOM);
        }
        MoveMakers x = Scene.full();
        x.undo();
        due.is("room for one", x.does(0, 0), 30);
        due.is("and no more", x.does(0, 0), ROOM);
        doesThrow();
    }

    /** A throw is counted, and changes nothing else: of the picture all but count(4). */
    private static void doesThrow() {
        int[][] throwing = {{2, 1, -7}, {3, 0, -4}, {3, 2, -4}, {4, 1, -5}, {5, 1, -2}, {6, 1, -7}, {6, 3, -4}, {6, 5, -4}};
        for (int[] t : throwing) {
            MoveMakers x = ownSortsWithTwoKept();
            String call = "does(" + t[0] + ", " + t[1] + ")";
            due.is(call, x.does(t[0], t[1]), t[2]);
            due.is(call + " again", x.does(t[0], t[1]), t[2]);
            String want = Scene.picture(ownSortsWithTwoKept()).replace("counts 3 7 2 2 0", "counts 3 7 2 2 2");
            due.same("behind two throws all", Scene.picture(x), want);
        }
    }

    /** Values 4, 0 and, behind two moves, 3; a source of each own sort, and source 6, which joins 2 and 3. */
    private static MoveMakers ownSortsWithTwoKept() {
        MoveMakers x = Scene.values(4, 0, 1);
        for (int sort = 0; sort < 6; sort++) {
            x.source(10, sort, 0);
        }
        x.source(8, 2, 3);
        x.enlist(1, 2);
        x.does(0, 2);
        x.does(1, 2);
        return x;
    }

    /** 13: "The latest one is UNDONE: how many are kept. STATE: none is." */
    private static void undo() {
        due.refused("nothing at all", MoveMakers::new, MoveMakers::undo, STATE);
        due.refused("none was kept", Scene::idle, MoveMakers::undo, STATE);
        MoveMakers x = Scene.busy();
        due.is("the second", x.undo(), 1);
        due.is("the first", x.undo(), 0);
        due.is("none", x.undo(), STATE);
        due.is("none still", x.undo(), STATE);
        due.is("none is kept", x.count(2), 0);
        MoveMakers full = Scene.full();
        for (int n = 29; n >= 0; n--) {
            due.is("of thirty", full.undo(), n);
        }
        due.is("of none", full.undo(), STATE);
        due.is("the first again", full.does(0, 0), 1);
    }

    private static void judge() {
        judgeOutside();
        judgeAllComeBack();
        judgeTheFirst();
        judgeThrows();
        judgePinnedOnes();
        judgeChangesNothing();
    }

    /** 14: "A sort of OWN MOVES (0 to 5)", "OUTSIDE" */
    private static void judgeOutside() {
        due.is("the least", Scene.values(3).judge(0), 0);
        due.is("the greatest", Scene.values(3).judge(5), 0);
        due.refused("6", Scene::busy, x -> x.judge(6), OUTSIDE);
        due.refused("NONE", Scene::busy, x -> x.judge(NONE), OUTSIDE);
        for (int wild : Scene.WILD) {
            due.refused("sort " + wild, Scene::busy, x -> x.judge(wild), OUTSIDE);
        }
        due.is("outside, of nothing", new MoveMakers().judge(6), OUTSIDE);
    }

    /** "0: all come back" */
    private static void judgeAllComeBack() {
        for (int sort = 0; sort < 6; sort++) {
            due.is("no objects, sort " + sort, new MoveMakers().judge(sort), 0);
        }
        due.is("up, past 5", Scene.values(0, 1, 2, 3, 4, 5).judge(0), 0);
        due.is("lazy, past 5", Scene.values(1, 2, 3, 4, 5).judge(1), 0);
        due.is("shared", Scene.values(1, 2, 3, 4, 5).judge(2), 0);
        due.is("far, up to the last", Scene.values(2, 1, 0).judge(3), 0);
        due.is("short", Scene.values(2, 3, 4, 5).judge(4), 0);
        due.is("cousin", Scene.values(1, 2, 3, 4, 5).judge(5), 0);
    }

    /** "1 and the first OBJECT that does not come back" */
    private static void judgeTheFirst() {
        due.is("object 0", Scene.values(0, 0).judge(1), 1);
        due.is("object 1", Scene.values(1, 0, 0).judge(1), 2);
        due.is("object 15", Scene.values(1, 1, 1, 1, 1, 1, 1, 1, 1, 1, 1, 1, 1, 1, 1, 0).judge(1), 16);
    }

    /** "-1 less its CAUSE, if it throws ahead of that" */
    private static void judgeThrows() {
        due.is("shared, the last", Scene.values(5, 1, 0).judge(2), -7);
        due.is("far, the last", Scene.values(2, 1, 1).judge(3), -4);
        due.is("short of 1", Scene.values(2, 2, 1).judge(4), -5);
        due.is("short of 0", Scene.values(2, 2, 0).judge(4), -5);
        due.is("cousin, the last", Scene.values(5, 1, 0).judge(5), -2);
        due.is("shared, the first", Scene.values(0, 5).judge(2), -7);
        due.is("far, the first", Scene.values(2, 0).judge(3), -4);
        due.is("cousin, the first", Scene.values(0, 5).judge(5), -2);
    }

    /** "with each OBJECT as it is now, PINNED ones, too" */
    private static void judgePinnedOnes() {
        MoveMakers x = Scene.values(1, 0);
        x.pin(0, true);
        x.pin(1, true);
        int[] want = {0, 2, -7, 0, -5, -2};
        for (int sort = 0; sort < 6; sort++) {
            due.is("pinned, sort " + sort, x.judge(sort), want[sort]);
        }
        MoveMakers now = Scene.own(0, 1, 5);
        due.is("none of 0 yet", now.judge(1), 0);
        now.does(0, 1);
        due.is("0 now", now.judge(1), 2);
        now.undo();
        due.is("no more", now.judge(1), 0);
    }

    /** "DONE and UNDONE, all being as it was behind each", with 30 kept, too */
    private static void judgeChangesNothing() {
        MoveMakers full = Scene.full();
        MoveMakers busy = Scene.busy();
        for (int sort = 0; sort < 6; sort++) {
            due.holds("judged with 30 kept", full.judge(sort) != ROOM);
            busy.judge(sort);
        }
        due.same("behind judging, full", Scene.picture(full), Scene.picture(Scene.full()));
        due.same("behind judging, busy", Scene.picture(busy), Scene.picture(Scene.busy()));
    }

    /** 15: "d, 17 at first; for each OBJECT ..; for each LIST ..; in 32 bits" */
    private static void digest() {
        due.is("of nothing", new MoveMakers().digest(), 18070225);
        MoveMakers x = Scene.lists(8, 0, 0, 7);
        x.object(5, 3, 3);
        long d = 17;
        for (int o = 0; o < 16; o++) {
            d = (31 * d + (o == 15 ? 5 : 0)) % 4294967296L;
        }
        for (int list = 0; list < 4; list++) {
            for (int o = list == 0 ? 0 : 8; o < (list == 0 ? 8 : list == 3 ? 15 : 0); o++) {
                d = (31 * d + o) % 4294967296L;
            }
            d = (31 * d + 77) % 4294967296L;
        }
        due.is("of sixteen", x.digest(), d > Integer.MAX_VALUE ? d - 4294967296L : d);
        due.refused("asked for", Scene::busy, y -> y.digest() == y.digest() ? 1 : 0, 1);
    }

    /** 16: "OBJECTS (what = 0), SOURCES (1), MOVES kept (2), MOVES DONE in all (3), those that threw (4). OUTSIDE." */
    private static void count() {
        int[] busy = {5, 9, 2, 2, 1};
        int[] full = {16, 12, 30, 30, 0};
        for (int what = 0; what < 5; what++) {
            due.is("busy, " + what, Scene.busy().count(what), busy[what]);
            due.is("full, " + what, Scene.full().count(what), full[what]);
            due.is("new, " + what, new MoveMakers().count(what), 0);
        }
        due.refused("5", Scene::busy, x -> x.count(5), OUTSIDE);
        due.refused("NONE", Scene::busy, x -> x.count(NONE), OUTSIDE);
        for (int wild : Scene.WILD) {
            due.refused("what " + wild, Scene::busy, x -> x.count(wild), OUTSIDE);
        }
        MoveMakers x = Scene.full();
        x.undo();
        x.does(0, 0);
        due.is("kept", x.count(2), 30);
        due.is("done in all, those undone too", x.count(3), 31);
        x.does(0, 0);
        due.is("what found no room was not done", x.count(3), 31);
    }

    /** 17: "All is as at the beginning: how many OBJECTS there were." */
    private static void clear() {
        due.is("of nothing", new MoveMakers().clear(), 0);
        due.is("of five", Scene.busy().clear(), 5);
        MoveMakers x = Scene.full();
        due.is("of sixteen", x.clear(), 16);
        due.is("once more", x.clear(), 0);
        due.same("cleared", Scene.picture(x), NOTHING);
        for (int o = 0; o < 16; o++) {
            due.is("room for object " + o, x.object(0, 0, 0), o);
            due.is("in no list", x.objectAt(o, 1), NONE);
            due.is("at no place", x.objectAt(o, 2), NONE);
            due.is("into a list, nothing being kept", x.enlist(o, 0), 1);
        }
        for (int s = 0; s < 12; s++) {
            due.is("room for source " + s, x.source(0, 0, 0), s);
        }
        for (int n = 1; n <= 30; n++) {
            due.is("room for move " + n, x.does(0, 0), n);
        }
        clearOfPinsSharesAndThrows();
    }

    private static void clearOfPinsSharesAndThrows() {
        MoveMakers x = Scene.idle();
        due.is("one threw", x.count(4), 1);
        x.clear();
        due.is("none threw", x.count(4), 0);
        for (int o = 0; o < 5; o++) {
            x.object(1, 0, 0);
            due.is("not pinned", x.objectAt(o, 3), 0);
        }
        for (int s = 0; s < 5; s++) {
            x.source(0, 0, 0);
        }
        due.is("source 5 is joined once more", x.source(8, 0, 1), 5);
        due.is("its shares are 1 and 1", x.drawn(5, 1), 25);
        due.is("its shares are 1 and 1", x.drawn(5, 2), 1);
    }
}
