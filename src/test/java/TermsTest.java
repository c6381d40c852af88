/**
 * The document's Terms, sentence by sentence: each that names a bound has a test of its own, which quotes it.
 * How moves are done in general stands in SourcesTest and DoingTest.
 */
public final class TermsTest {
    private static final int UNKNOWN = -101, OUTSIDE = -102, STATE = -103, ROOM = -104, NONE = -109;
    private static final Due due = new Due("TermsTest");

    public static void main(String[] args) {
        answersInTheirOrder();
        terms1();
        pins();
        terms2();
        changesSwapsPillars();
        inserts();
        reversesCrossesTurns();
        nears();
        joinedAndFiltered();
        owns();
        pinsInLists();
        terms3();
        lazyUndone();
        draws();
        fiveHundredTwelveCalls();
        due.end();
    }

    private static void moves(String what, MoveMakers x, int source, String want) {
        due.same(what + ": moves", Scene.moves(x, source), want);
    }

    private static void list(String what, MoveMakers x, int list, String want) {
        due.same(what + ": list " + list, Scene.list(x, list), want);
    }

    private static void values(String what, MoveMakers x, String want) {
        due.same(what + ": values", Scene.valuesOf(x), want);
    }

    // "Calls answer, the first of these that fits: UNKNOWN, OUTSIDE, STATE, ROOM; then nothing changes."

    private static void answersInTheirOrder() {
        unknownAheadOfOutside();
        unknownAheadOfState();
        unknownAheadOfRoom();
        outsideAheadOfState();
        outsideAheadOfRoom();
        stateAheadOfRoom();
        refusalsAheadOfNone();
    }

    private static void unknownAheadOfOutside() {
        due.refused("objectAt(5, 4)", Scene::busy, x -> x.objectAt(5, 4), UNKNOWN);
        due.refused("source(5, 4, 4)", Scene::busy, x -> x.source(5, 4, 4), UNKNOWN);
        due.refused("source(9, 9, 3)", Scene::busy, x -> x.source(9, 9, 3), UNKNOWN);
        due.refused("shares(9, 0, 101)", Scene::busy, x -> x.shares(9, 0, 101), UNKNOWN);
        due.refused("move(9, 0, 4)", Scene::busy, x -> x.move(9, 0, 4), UNKNOWN);
        due.refused("move(0, 99, 4)", Scene::busy, x -> x.move(0, 99, 4), UNKNOWN);
        due.refused("drawn(9, -1)", Scene::busy, x -> x.drawn(9, -1), UNKNOWN);
    }

    private static void unknownAheadOfState() {
        due.refused("enlist(5, 0), a move kept", Scene::busy, x -> x.enlist(5, 0), UNKNOWN);
        due.refused("enlist(0, 4), a move kept", Scene::busy, x -> x.enlist(0, 4), UNKNOWN);
        due.refused("source(8, 7, 9), 7 being 3 deep", Scene::busy, x -> x.source(8, 7, 9), UNKNOWN);
        due.refused("source(8, 9, 7), 7 being 3 deep", Scene::busy, x -> x.source(8, 9, 7), UNKNOWN);
    }

    private static void unknownAheadOfRoom() {
        due.refused("source(3, 4, 0), 12 there", Scene::full, x -> x.source(3, 4, 0), UNKNOWN);
        due.refused("source(8, 12, 0), 12 there", Scene::full, x -> x.source(8, 12, 0), UNKNOWN);
        due.refused("source(9, 12, 0), 12 there", Scene::full, x -> x.source(9, 12, 0), UNKNOWN);
        due.refused("does(12, 0), 30 kept", Scene::full, x -> x.does(12, 0), UNKNOWN);
        due.refused("does(0, 80), 30 kept", Scene::full, x -> x.does(0, 80), UNKNOWN);
    }

    private static void outsideAheadOfState() {
        due.refused("source(9, 7, 3), 7 being 3 deep", Scene::busy, x -> x.source(9, 7, 3), OUTSIDE);
        due.refused("shares(0, 0, 1), 0 not joined", Scene::busy, x -> x.shares(0, 0, 1), OUTSIDE);
        due.refused("shares(0, 1, 101), 0 not joined", Scene::busy, x -> x.shares(0, 1, 101), OUTSIDE);
    }

    private static void outsideAheadOfRoom() {
        due.refused("object(6, 0, 0), 16 there", Scene::full, x -> x.object(6, 0, 0), OUTSIDE);
        due.refused("object(0, -1, 0), 16 there", Scene::full, x -> x.object(0, -1, 0), OUTSIDE);
        due.refused("object(0, 0, 101), 16 there", Scene::full, x -> x.object(0, 0, 101), OUTSIDE);
        due.refused("source(11, 0, 0), 12 there", Scene::full, x -> x.source(11, 0, 0), OUTSIDE);
        due.refused("source(5, 0, 0), 12 there", Scene::full, x -> x.source(5, 0, 0), OUTSIDE);
        due.refused("source(7, 16, 0), 12 there", Scene::full, x -> x.source(7, 16, 0), OUTSIDE);
        due.refused("source(9, 0, 3), 12 there", Scene::full, x -> x.source(9, 0, 3), OUTSIDE);
        due.refused("source(10, 6, 0), 12 there", Scene::full, x -> x.source(10, 6, 0), OUTSIDE);
    }

    private static void stateAheadOfRoom() {
        due.refused("source(9, 8, 0), 12 there", Scene::full, x -> x.source(9, 8, 0), STATE);
        due.refused("source(8, 0, 8), 12 there", Scene::full, x -> x.source(8, 0, 8), STATE);
    }

    private static void refusalsAheadOfNone() {
        due.refused("listed(4, 16)", Scene::busy, x -> x.listed(4, 16), UNKNOWN);
        due.refused("drawn by -1 where there are none", () -> Scene.with(new MoveMakers(), 0, 0, 0),
            x -> x.drawn(0, -1), OUTSIDE);
    }

    private static void terms1() {
        objects0To15();
        values0To5();
        xAndY0To100();
        lists0To3OrNone();
        sixteenInAListAtMost();
    }

    /** "OBJECTS 0 to 15, as they come" */
    private static void objects0To15() {
        MoveMakers x = new MoveMakers();
        due.is("no object 0 yet", x.objectAt(0, 0), UNKNOWN);
        for (int o = 0; o < 16; o++) {
            due.is("no object " + o + " yet", x.objectAt(o, 0), UNKNOWN);
            due.is("object " + o, x.object(5, 0, 0), o);
            due.is("object " + o + " is there", x.objectAt(o, 0), 5);
        }
        due.is("object -1", x.objectAt(-1, 0), UNKNOWN);
        due.is("object 16", x.objectAt(16, 0), UNKNOWN);
        due.refused("a 17th", Scene::full, full -> full.object(0, 0, 0), ROOM);
    }

    /** "a VALUE 0 to 5" */
    private static void values0To5() {
        due.is("value 0", new MoveMakers().object(0, 1, 1), 0);
        due.is("value 5", new MoveMakers().object(5, 1, 1), 0);
        due.refused("value -1", Scene::busy, x -> x.object(-1, 1, 1), OUTSIDE);
        due.refused("value 6", Scene::busy, x -> x.object(6, 1, 1), OUTSIDE);
    }

    /** "x and y (0 to 100 each)" */
    private static void xAndY0To100() {
        due.is("0, 0", new MoveMakers().object(1, 0, 0), 0);
        due.is("100, 0", new MoveMakers().object(1, 100, 0), 0);
        due.is("0, 100", new MoveMakers().object(1, 0, 100), 0);
        due.is("100, 100", new MoveMakers().object(1, 100, 100), 0);
        due.refused("x -1", Scene::busy, x -> x.object(1, -1, 0), OUTSIDE);
        due.refused("x 101", Scene::busy, x -> x.object(1, 101, 0), OUTSIDE);
        due.refused("y -1", Scene::busy, x -> x.object(1, 0, -1), OUTSIDE);
        due.refused("y 101", Scene::busy, x -> x.object(1, 0, 101), OUTSIDE);
    }

    /** "each is in one of LISTS 0 to 3, or in none" */
    private static void lists0To3OrNone() {
        MoveMakers x = Scene.values(1);
        due.is("in none at first", x.objectAt(0, 1), NONE);
        for (int list = 0; list < 4; list++) {
            due.is("into list " + list, x.enlist(0, list), 1);
            due.is("its list", x.objectAt(0, 1), list);
            for (int other = 0; other < 4; other++) {
                list("in list " + list + " alone", x, other, other == list ? "0" : "");
            }
        }
        due.is("into none", x.enlist(0, NONE), 1);
        due.is("its list", x.objectAt(0, 1), NONE);
        due.refused("list -1", Scene::idle, y -> y.enlist(0, -1), UNKNOWN);
        due.refused("list 4", Scene::idle, y -> y.enlist(0, 4), UNKNOWN);
    }

    /** "a LIST has them in an order, 16 at most" */
    private static void sixteenInAListAtMost() {
        String order = "0 1 2 3 4 5 6 7 8 9 10 11 12 13 14 15";
        for (int list = 0; list < 4; list++) {
            int[] lengths = new int[4];
            lengths[list] = 16;
            MoveMakers x = Scene.lists(lengths);
            list("sixteen", x, list, order);
            due.is("place 16", x.listed(list, 16), NONE);
            due.is("the first once more", x.enlist(0, list), 1);
            list("sixteen still", x, list, "1 2 3 4 5 6 7 8 9 10 11 12 13 14 15 0");
        }
        MoveMakers byInsert = Scene.with(Scene.lists(15, 1), 3, 1, 0);
        due.is("places to go to", byInsert.many(0), 16);
        due.is("the sixteenth", byInsert.does(0, 15), 1);
        list("sixteen by an insert", byInsert, 0, order);
        due.is("none is left to go", byInsert.many(0), 0);
        MoveMakers byCross = Scene.with(Scene.lists(8, 8), 5, 0, 1);
        due.is("a from its length, b from 0 on", byCross.does(0, Scene.at(byCross, 0, 8, 0)), 1);
        list("sixteen by a cross", byCross, 0, order);
        list("the other one", byCross, 1, "");
    }

    /** Lists 0: 0 1 2, 1: 3 4; 5 is in none. Those are pinned whose bits are set. */
    private static MoveMakers pinned(int bits, int... source) {
        MoveMakers x = new MoveMakers();
        int[] values = {2, 1, 0, 1, 2, 3};
        int[] lists = {0, 0, 0, 1, 1, NONE};
        for (int o = 0; o < values.length; o++) {
            x.object(values[o], 10 * o, o * o);
            x.enlist(o, lists[o]);
            x.pin(o, (bits >> o & 1) == 1);
        }
        return Scene.with(x, source[0], source[1], source[2]);
    }

    private static final int[][] ALL_SORTS = {{0, 0, 0}, {1, 0, 0}, {2, 0, 0}, {3, 0, 1}, {3, 1, 0}, {3, 0, 0}, {3, 0, 2},
        {4, 0, 0}, {4, 1, 0}, {5, 0, 1}, {5, 1, 2}, {6, 0, 0}, {6, 1, 0}, {7, 1, 0}, {7, 15, 0}, {10, 0, 0}, {10, 1, 0},
        {10, 2, 0}, {10, 3, 0}, {10, 4, 0}, {10, 5, 0}};

    private static void pins() {
        for (int[] source : ALL_SORTS) {
            for (int bits = 0; bits < 64; bits++) {
                noMoveChangesAPinnedOne(bits, source);
            }
        }
        int[][] whollyTold = {{0, 0, 0}, {1, 0, 0}, {2, 0, 0}, {3, 0, 1}, {3, 1, 0}, {3, 0, 0}, {3, 0, 2}, {5, 0, 1},
            {5, 1, 2}, {6, 0, 0}, {6, 1, 0}};
        for (int[] source : whollyTold) {
            for (int bits = 0; bits < 64; bits++) {
                allOtherMovesAreListed(bits, source);
            }
        }
    }

    private static boolean changesOneOf(MoveMakers x, int bits, int m) {
        int[] before = new int[18];
        for (int n = 0; n < 18; n++) {
            before[n] = x.objectAt(n / 3, n % 3);
        }
        x.does(0, m);
        for (int n = 0; n < 18; n++) {
            if ((bits >> n / 3 & 1) == 1 && x.objectAt(n / 3, n % 3) != before[n]) {
                return true;
            }
        }
        return false;
    }

    private static String named(int bits, int[] source) {
        return "source " + source[0] + " " + source[1] + " " + source[2] + ", pins " + Integer.toBinaryString(bits);
    }

    /**
     * "An OBJECT may be PINNED: then no MOVE is listed that would change its VALUE or its place in a LIST (also by
     * others that go or come ahead of it)."
     */
    private static void noMoveChangesAPinnedOne(int bits, int[] source) {
        int many = pinned(bits, source).many(0);
        for (int m = 0; m < many; m++) {
            due.holds(named(bits, source) + ": move " + m, !changesOneOf(pinned(bits, source), bits, m));
        }
    }

    /** What would not change a PINNED one is listed all the same. */
    private static void allOtherMovesAreListed(int bits, int[] source) {
        MoveMakers free = pinned(0, source);
        StringBuilder want = new StringBuilder();
        int many = free.many(0);
        for (int m = 0; m < many; m++) {
            if (!changesOneOf(pinned(0, source), bits, m)) {
                want.append(want.length() == 0 ? "" : " ").append(free.move(0, m, 1)).append(',').append(free.move(0, m, 2));
            }
        }
        moves(named(bits, source), pinned(bits, source), 0, want.toString());
    }

    private static void terms2() {
        sources0To11();
        movesFrom0On();
        theFirstNumberSlowest();
        zeroWhereNoneIsTold();
        threeDeepAtMost();
    }

    /** "SOURCES 0 to 11, as they come" */
    private static void sources0To11() {
        MoveMakers x = Scene.values(1);
        for (int s = 0; s < 12; s++) {
            due.is("no source " + s + " yet", x.many(s), UNKNOWN);
            due.is("source " + s, x.source(0, 0, 0), s);
            due.is("source " + s + " is there", x.many(s), 5);
        }
        due.is("source -1", x.many(-1), UNKNOWN);
        due.is("source 12", x.many(12), UNKNOWN);
        due.refused("a 13th", Scene::full, full -> full.source(0, 0, 0), ROOM);
    }

    /** "Their MOVES are numbered from 0 on" */
    private static void movesFrom0On() {
        for (int[] source : ALL_SORTS) {
            MoveMakers x = pinned(0, source);
            int many = x.many(0);
            due.holds("moves of source " + source[0], many > 0);
            due.is("move -1", x.move(0, -1, 0), UNKNOWN);
            due.is("move 0", x.move(0, 0, 0), source[0]);
            due.is("the last move", x.move(0, many - 1, 0), source[0]);
            due.is("behind the last", x.move(0, many, 0), UNKNOWN);
            MoveMakers none = Scene.with(new MoveMakers(), source[0], source[1], source[2]);
            due.is("no moves", none.many(0), 0);
            due.is("no move 0", none.move(0, 0, 0), UNKNOWN);
            due.is("no move 0 to do", none.does(0, 0), UNKNOWN);
        }
    }

    /** "in the order that is told (the first told number slowest)" */
    private static void theFirstNumberSlowest() {
        for (int[] source : ALL_SORTS) {
            MoveMakers x = pinned(32, source);
            int many = x.many(0);
            for (int m = 1; m < many; m++) {
                int ahead = 100 * x.move(0, m - 1, 1) + x.move(0, m - 1, 2);
                due.holds("order of source " + source[0] + " at " + m, ahead < 100 * x.move(0, m, 1) + x.move(0, m, 2));
            }
        }
    }

    /** "each has three numbers i, j, k (0 where none is told)" */
    private static void zeroWhereNoneIsTold() {
        for (int[] source : ALL_SORTS) {
            MoveMakers x = pinned(0, source);
            int last = x.many(0) - 1;
            due.is("k of source " + source[0], x.move(0, last, 3), 0);
            if (source[0] == 6 || source[0] == 10) {
                due.is("j of source " + source[0], x.move(0, last, 2), 0);
            }
        }
    }

    /** "A SOURCE is DEEP: 0 of the other sorts, of 8 and 9 one more than the deepest of those it is of; 3 at most." */
    private static void threeDeepAtMost() {
        for (int sort : new int[] {0, 1, 2, 3, 4, 5, 6, 7, 10}) {
            MoveMakers x = Scene.with(new MoveMakers(), sort, 1, 2);
            due.is("1 deep", x.source(9, 0, 0), 1);
            due.is("2 deep", x.source(9, 1, 0), 2);
            due.is("3 deep", x.source(9, 2, 0), 3);
            due.is("4 deep", x.source(9, 3, 0), STATE);
            due.is("as deep as the deeper one, a", x.source(8, 3, 0), STATE);
            due.is("as deep as the deeper one, b", x.source(8, 0, 3), STATE);
            due.is("3 deep by a", x.source(8, 2, 0), 4);
            due.is("3 deep by b", x.source(8, 0, 2), 5);
            due.is("4 deep by a", x.source(9, 4, 0), STATE);
            due.is("4 deep by b", x.source(9, 5, 0), STATE);
            due.is("not the sum of both", x.source(8, 2, 2), 6);
            due.is("1 deep still", x.source(8, 0, 0), 7);
        }
        due.refused("4 deep, filtered", Scene::busy, x -> x.source(9, 7, 0), STATE);
        due.refused("4 deep, joined", Scene::busy, x -> x.source(8, 7, 7), STATE);
    }

    private static void changesSwapsPillars() {
        changeToAnotherValue();
        swapOfUnlikeOnes();
        pillarOfOneAtLeast();
        pillarNoneOfThemPinned();
    }

    /** "CHANGE: OBJECT i, not PINNED, gets another VALUE j." */
    private static void changeToAnotherValue() {
        moves("the least and the greatest value", Scene.with(Scene.values(0, 5), 0, 0, 0), 0,
            "0,1 0,2 0,3 0,4 0,5 1,0 1,1 1,2 1,3 1,4");
        moves("of no object", Scene.with(new MoveMakers(), 0, 0, 0), 0, "");
        MoveMakers x = Scene.with(Scene.values(4), 0, 0, 0);
        x.pin(0, true);
        moves("of a pinned one", x, 0, "");
    }

    /** "SWAP: OBJECTS i < j, both not PINNED, of unlike VALUES, exchange these." */
    private static void swapOfUnlikeOnes() {
        moves("of no object", Scene.with(new MoveMakers(), 1, 0, 0), 0, "");
        moves("of one", Scene.with(Scene.values(3), 1, 0, 0), 0, "");
        moves("of alike ones", Scene.with(Scene.values(3, 3), 1, 0, 0), 0, "");
        MoveMakers x = Scene.with(Scene.values(3, 0), 1, 0, 0);
        moves("of two", x, 0, "0,1");
        x.pin(0, true);
        moves("the lesser pinned", x, 0, "");
        x.pin(0, false);
        x.pin(1, true);
        moves("the greater pinned", x, 0, "");
        MoveMakers sixteen = Scene.with(Scene.values(5, 0, 0, 0, 0, 0, 0, 0, 0, 0, 0, 0, 0, 0, 0, 4), 1, 0, 0);
        due.is("the first with all others, the last with all between", sixteen.many(0), 29);
        due.is("the first and the last", sixteen.does(0, 14), 1);
        values("the first and the last", sixteen, "4 0 0 0 0 0 0 0 0 0 0 0 0 0 0 5");
    }

    /** "PILLAR: all OBJECTS of VALUE i, one at least .., get another VALUE j." */
    private static void pillarOfOneAtLeast() {
        moves("of no object", Scene.with(new MoveMakers(), 2, 0, 0), 0, "");
        MoveMakers x = Scene.with(Scene.values(5, 5, 0), 2, 0, 0);
        moves("values that one has", x, 0, "0,1 0,2 0,3 0,4 0,5 5,0 5,1 5,2 5,3 5,4");
        due.is("the greatest becomes the least", x.does(0, 5), 1);
        values("all of them", x, "0 0 0");
        moves("one value is left", x, 0, "0,1 0,2 0,3 0,4 0,5");
        x.undo();
        values("none but them comes back", x, "5 5 0");
        MoveMakers sixteen = Scene.with(Scene.values(3, 3, 3, 3, 3, 3, 3, 3, 3, 3, 3, 3, 3, 3, 3, 3), 2, 0, 0);
        moves("sixteen of one value", sixteen, 0, "3,0 3,1 3,2 3,4 3,5");
        due.is("sixteen of one value", sixteen.does(0, 4), 1);
        values("sixteen of one value", sixteen, "5 5 5 5 5 5 5 5 5 5 5 5 5 5 5 5");
    }

    /** "none of them PINNED" */
    private static void pillarNoneOfThemPinned() {
        MoveMakers x = Scene.with(Scene.values(2, 2, 2, 3), 2, 0, 0);
        for (int o = 0; o < 3; o++) {
            x.pin(o, true);
            moves("one of three pinned", x, 0, "3,0 3,1 3,2 3,4 3,5");
            x.pin(o, false);
        }
        x.pin(3, true);
        moves("another one pinned", x, 0, "2,0 2,1 2,3 2,4 2,5");
    }

    private static void inserts() {
        insertOfEmptyLists();
        insertCountedBehindItsLeaving();
        insertNotWhereItIs();
    }

    /** "INSERT: the OBJECT at place i of LIST a goes to place j of LIST b" */
    private static void insertOfEmptyLists() {
        moves("out of an empty one", Scene.with(Scene.lists(0, 2), 3, 0, 1), 0, "");
        moves("within an empty one", Scene.with(Scene.lists(0, 2), 3, 0, 0), 0, "");
        MoveMakers x = Scene.with(Scene.lists(2, 0), 3, 0, 1);
        moves("into an empty one", x, 0, "0,0 1,0");
        x.does(0, 1);
        list("into an empty one", x, 0, "0");
        list("into an empty one", x, 1, "1");
        moves("then it is not empty", x, 0, "0,0 0,1");
        x.does(0, 1);
        list("the last one goes", x, 0, "");
        list("behind the end", x, 1, "1 0");
    }

    /** "counted behind its leaving" */
    private static void insertCountedBehindItsLeaving() {
        MoveMakers x = Scene.with(Scene.lists(3), 3, 0, 0);
        due.is("the first to the last place", x.does(0, Scene.at(x, 0, 0, 2)), 1);
        list("the first to the last place", x, 0, "1 2 0");
        due.is("the last to the first place", x.does(0, Scene.at(x, 0, 2, 0)), 2);
        list("the last to the first place", x, 0, "0 1 2");
        due.is("not behind the last place", Scene.at(x, 0, 0, 3), -1);
        due.is("the first to the middle", x.does(0, Scene.at(x, 0, 0, 1)), 3);
        list("the first to the middle", x, 0, "1 0 2");
        MoveMakers two = Scene.with(Scene.lists(1, 2), 3, 0, 1);
        moves("another list has a place more", two, 0, "0,0 0,1 0,2");
    }

    /** "(not where it is)" */
    private static void insertNotWhereItIs() {
        moves("of one within", Scene.with(Scene.lists(1), 3, 0, 0), 0, "");
        moves("of two within", Scene.with(Scene.lists(2), 3, 0, 0), 0, "0,1 1,0");
        moves("the same place of another list", Scene.with(Scene.lists(1, 1), 3, 0, 1), 0, "0,0 0,1");
    }

    private static void reversesCrossesTurns() {
        reverseOfTwoAtLeast();
        crossUpToTheLengths();
        crossNotBothTheLengths();
        crossOfUnlikeLists();
        crossNoneGetsMoreThan16();
        turnByLessThanTheLength();
    }

    /** "REVERSE: places i < j of LIST a, with all between, are turned round." */
    private static void reverseOfTwoAtLeast() {
        moves("of none", Scene.with(Scene.lists(0), 4, 0, 0), 0, "");
        moves("of one", Scene.with(Scene.lists(1), 4, 0, 0), 0, "");
        MoveMakers two = Scene.with(Scene.lists(2), 4, 0, 0);
        moves("of two", two, 0, "0,1");
        two.does(0, 0);
        list("of two", two, 0, "1 0");
        MoveMakers sixteen = Scene.with(Scene.lists(0, 0, 0, 16), 4, 3, 0);
        due.is("of sixteen", sixteen.many(0), 120);
        due.is("the first to the last", sixteen.does(0, 14), 1);
        list("the first to the last", sixteen, 3, "15 14 13 12 11 10 9 8 7 6 5 4 3 2 1 0");
    }

    /** "CROSS: LIST a from place i on, and LIST b from place j on (both up to its length ..), are exchanged" */
    private static void crossUpToTheLengths() {
        MoveMakers x = Scene.with(Scene.lists(2, 1), 5, 0, 1);
        due.is("a from its end", x.does(0, Scene.at(x, 0, 2, 0)), 1);
        list("a from its end", x, 0, "0 1 2");
        list("b from its beginning", x, 1, "");
        moves("b is empty", x, 0, "0,0 1,0 2,0");
        due.is("all of a", x.does(0, 0), 2);
        list("all of a", x, 0, "");
        list("all of a", x, 1, "0 1 2");
        moves("a is empty", x, 0, "0,0 0,1 0,2");
        due.is("b from its last on", x.does(0, 2), 3);
        list("b from its last on", x, 0, "2");
        list("b from its last on", x, 1, "0 1");
    }

    /** "not both the lengths" */
    private static void crossNotBothTheLengths() {
        moves("of two empty ones", Scene.with(new MoveMakers(), 5, 0, 1), 0, "");
        MoveMakers x = Scene.with(Scene.lists(2, 2), 5, 0, 1);
        moves("all but both", x, 0, "0,0 0,1 0,2 1,0 1,1 1,2 2,0 2,1");
        due.is("alike places short of them", x.does(0, 4), 1);
        list("alike places", x, 0, "0 3");
        list("alike places", x, 1, "2 1");
    }

    /** "a and b are not the same" */
    private static void crossOfUnlikeLists() {
        for (int list = 0; list < 4; list++) {
            int same = list;
            due.refused("cross of list " + list + " and itself", Scene::busy, x -> x.source(5, same, same), OUTSIDE);
        }
    }

    /** "none gets more than 16 (this can't be)" */
    private static void crossNoneGetsMoreThan16() {
        int many = Scene.with(Scene.lists(8, 8), 5, 0, 1).many(0);
        due.is("of eight and eight", many, 80);
        for (int m = 0; m < many; m++) {
            MoveMakers x = Scene.with(Scene.lists(8, 8), 5, 0, 1);
            int lengthA = x.move(0, m, 1) + 8 - x.move(0, m, 2);
            x.does(0, m);
            due.holds("a has a last one", lengthA == 0 || x.listed(0, lengthA - 1) != NONE);
            due.is("and no more", x.listed(0, lengthA), NONE);
            due.holds("b has the others", lengthA == 16 || x.listed(1, 15 - lengthA) != NONE);
            due.is("and no more", x.listed(1, 16 - lengthA), NONE);
        }
    }

    /** "TURN: LIST a by i (1 to its length less 1): the first i go behind the others, in their order." */
    private static void turnByLessThanTheLength() {
        moves("of none", Scene.with(Scene.lists(0), 6, 0, 0), 0, "");
        moves("of one", Scene.with(Scene.lists(1), 6, 0, 0), 0, "");
        moves("of two", Scene.with(Scene.lists(2), 6, 0, 0), 0, "1,0");
        MoveMakers x = Scene.with(Scene.lists(4), 6, 0, 0);
        moves("of four", x, 0, "1,0 2,0 3,0");
        due.is("by the least", x.does(0, 0), 1);
        list("by the least", x, 0, "1 2 3 0");
        due.is("by the most", x.does(0, 2), 2);
        list("by the most", x, 0, "0 1 2 3");
        MoveMakers sixteen = Scene.with(Scene.lists(16), 6, 0, 0);
        due.is("of sixteen", sixteen.many(0), 15);
        sixteen.does(0, 14);
        list("of sixteen by 15", sixteen, 0, "15 0 1 2 3 4 5 6 7 8 9 10 11 12 13 14");
    }

    private static void nears() {
        nearFrom0ToALess1();
        nearFewerThanA();
        nearBySquares();
        nearByNumbers();
        nearOfAnotherValue();
        nearOfOthersNotPinned();
    }

    /** Objects on a line, so far from the first. */
    private static MoveMakers line(int... xs) {
        MoveMakers x = new MoveMakers();
        for (int o = 0; o < xs.length; o++) {
            x.object(o, xs[o], 0);
        }
        return x;
    }

    /** Which object the first one's value goes to, by its j-th nearest. */
    private static void nearest(String what, MoveMakers x, int j, int want) {
        int value = x.objectAt(0, 0);
        int other = x.objectAt(want, 0);
        due.is(what, x.does(0, Scene.at(x, 0, 0, j)), 1);
        due.is(what + ": it has the other's", x.objectAt(0, 0), other);
        due.is(what + ": the other has its", x.objectAt(want, 0), value);
        x.undo();
    }

    /** "the j-th nearest (j 0 to a - 1 ..)" */
    private static void nearFrom0ToALess1() {
        MoveMakers x = Scene.with(line(0, 100, 1, 50), 7, 1, 0);
        moves("the nearest alone", x, 0, "0,0 1,0 2,0 3,0");
        nearest("the nearest", x, 0, 2);
        MoveMakers two = Scene.with(line(0, 100, 1, 50), 7, 2, 0);
        moves("two nearest", two, 0, "0,0 0,1 1,0 1,1 2,0 2,1 3,0 3,1");
        nearest("the second", two, 1, 3);
        due.is("no third", Scene.at(two, 0, 0, 2), -1);
    }

    /** The same, where there are fewer others than a. */
    private static void nearFewerThanA() {
        moves("of no object", Scene.with(new MoveMakers(), 7, 15, 0), 0, "");
        moves("of one", Scene.with(Scene.values(1), 7, 15, 0), 0, "");
        moves("of two", Scene.with(Scene.values(1, 2), 7, 15, 0), 0, "0,0 1,0");
        MoveMakers sixteen = Scene.with(Scene.values(1, 0, 0, 0, 0, 0, 0, 0, 0, 0, 0, 0, 0, 0, 0, 0), 7, 15, 0);
        due.is("of sixteen", sixteen.many(0), 30);
        nearest("the fifteenth", sixteen, 14, 15);
    }

    /** "by the squares of distances" */
    private static void nearBySquares() {
        MoveMakers x = new MoveMakers();
        int[][] places = {{0, 0}, {100, 100}, {0, 6}, {3, 4}, {100, 99}};
        for (int o = 0; o < places.length; o++) {
            x.object(o, places[o][0], places[o][1]);
        }
        x.source(7, 15, 0);
        nearest("25 (7 by steps)", x, 0, 3);
        nearest("36 (6 by steps)", x, 1, 2);
        nearest("19801", x, 2, 4);
        nearest("20000", x, 3, 1);
    }

    /** "then by numbers" */
    private static void nearByNumbers() {
        MoveMakers x = new MoveMakers();
        int[][] places = {{50, 50}, {50, 55}, {53, 54}, {46, 47}, {50, 50}, {45, 50}};
        for (int o = 0; o < places.length; o++) {
            x.object(o, places[o][0], places[o][1]);
        }
        x.source(7, 5, 0);
        nearest("0", x, 0, 4);
        nearest("25, the least number", x, 1, 1);
        nearest("25, the next", x, 2, 2);
        nearest("25, the next", x, 3, 3);
        nearest("25, the greatest", x, 4, 5);
    }

    /** "exchanges its VALUE, which is another one" */
    private static void nearOfAnotherValue() {
        moves("all alike", Scene.with(Scene.values(2, 2, 2), 7, 15, 0), 0, "");
        moves("the first unlike", Scene.with(Scene.values(1, 2, 2), 7, 15, 0), 0, "0,0 0,1 1,0 2,0");
        moves("the nearest of the last is alike", Scene.with(Scene.values(2, 2, 1), 7, 1, 0), 0, "2,0");
    }

    /** "of the others that are not PINNED; i is not either" */
    private static void nearOfOthersNotPinned() {
        MoveMakers x = Scene.with(Scene.values(0, 1, 2), 7, 15, 0);
        x.pin(1, true);
        moves("the middle one pinned", x, 0, "0,0 2,0");
        nearest("the one behind it", x, 0, 2);
        x.pin(0, true);
        moves("one is left", x, 0, "");
        x.pin(2, true);
        moves("none is left", x, 0, "");
    }

    private static void joinedAndFiltered() {
        joinedOfNone();
        lessThanItsOwnNumber();
        filteredByThree();
    }

    /** "JOINED: the MOVES of SOURCE a, then those of SOURCE b" */
    private static void joinedOfNone() {
        MoveMakers x = Scene.with(Scene.with(Scene.values(4, 4), 1, 0, 0), 10, 0, 0);
        x.source(8, 0, 1);
        x.source(8, 1, 0);
        x.source(8, 0, 0);
        x.source(8, 1, 1);
        moves("a has none", x, 2, "0,0 1,0");
        moves("b has none", x, 3, "0,0 1,0");
        moves("both have none", x, 4, "");
        moves("the same twice", x, 5, "0,0 1,0 0,0 1,0");
    }

    /** "(both less than its own number)", "of SOURCE a (less than its own number)" */
    private static void lessThanItsOwnNumber() {
        MoveMakers x = new MoveMakers();
        due.is("the first, joined of itself", x.source(8, 0, 0), UNKNOWN);
        due.is("the first, filtered of itself", x.source(9, 0, 0), UNKNOWN);
        due.refused("joined, a is its own", Scene::busy, y -> y.source(8, 9, 0), UNKNOWN);
        due.refused("joined, b is its own", Scene::busy, y -> y.source(8, 0, 9), UNKNOWN);
        due.refused("joined, a is greater", Scene::busy, y -> y.source(8, 10, 0), UNKNOWN);
        due.refused("joined, b is greater", Scene::busy, y -> y.source(8, 0, 10), UNKNOWN);
        due.refused("filtered of its own", Scene::busy, y -> y.source(9, 9, 0), UNKNOWN);
        due.refused("filtered of a greater one", Scene::busy, y -> y.source(9, 10, 0), UNKNOWN);
        due.is("one less, joined", Scene.busy().source(8, 8, 8), 9);
        due.is("one less, filtered", Scene.busy().source(9, 8, 0), 9);
    }

    /** "FILTERED: of SOURCE a .. those MOVES of which (i + j + k) % 3 is b" */
    private static void filteredByThree() {
        MoveMakers x = Scene.with(Scene.values(0, 5), 0, 0, 0);
        String[] want = {"0,3 1,2", "0,1 0,4 1,0 1,3", "0,2 0,5 1,1 1,4"};
        for (int b = 0; b < 3; b++) {
            x.source(9, 0, b);
            moves("filtered by " + b, x, 1 + b, want[b]);
        }
        MoveMakers none = Scene.with(Scene.values(1), 10, 0, 0);
        none.source(9, 0, 0);
        none.source(9, 0, 1);
        moves("all are let through", none, 1, "0,0");
        moves("none is let through", none, 2, "");
    }

    private static void owns() {
        ownOfThoseNotPinned();
        upBehind5();
        sharedCutOff();
        farOfWhatThereIs();
        shortDownTo0();
        cousinDownTo0();
    }

    /** "OWN: for each OBJECT i that is not PINNED (with a 3 and 5: nor is OBJECT 0)" */
    private static void ownOfThoseNotPinned() {
        for (int a = 0; a < 6; a++) {
            boolean changesTheFirst = a == 3 || a == 5;
            moves("of no object", Scene.own(a), 0, "");
            MoveMakers x = Scene.own(a, 1, 1, 1);
            x.pin(2, true);
            moves("the last pinned", x, 0, "0,0 1,0");
            x.pin(0, true);
            moves("the first pinned too", x, 0, changesTheFirst ? "" : "1,0");
            x.pin(1, true);
            moves("all pinned", x, 0, "");
            due.is("a pinned one is not done", x.does(0, 0), UNKNOWN);
        }
    }

    private static void doneTo(String what, MoveMakers x, int m, String want) {
        due.is(what, x.does(0, m), 1);
        values(what, x, want);
    }

    /** "0 UP: its VALUE is one more, 0 behind 5. 1 LAZY: likewise" */
    private static void upBehind5() {
        for (int a = 0; a < 2; a++) {
            doneTo("4 up", Scene.own(a, 4), 0, "5");
            doneTo("5 up", Scene.own(a, 5), 0, "0");
            doneTo("0 up", Scene.own(a, 0), 0, "1");
        }
    }

    /** "SHARED: its VALUE becomes 5 / VALUE, cut off." */
    private static void sharedCutOff() {
        int[] shared = {5, 2, 1, 1, 1};
        for (int v = 1; v < 6; v++) {
            doneTo("shared by " + v, Scene.own(2, v), 0, "" + shared[v - 1]);
        }
    }

    /** "FAR: with v its VALUE ahead, OBJECT 0's VALUE becomes 0, then its own that which OBJECT i + v has then." */
    private static void farOfWhatThereIs() {
        doneTo("itself", Scene.own(3, 4, 3, 0), 2, "0 3 0");
        doneTo("the last", Scene.own(3, 4, 1, 5), 1, "0 5 5");
        doneTo("object 0 of itself, which is 0 then", Scene.own(3, 0, 3), 0, "0 3");
        doneTo("object 0 of another: v is its value ahead", Scene.own(3, 2, 3, 4), 0, "4 3 4");
        MoveMakers sixteen = Scene.own(3, 1, 1, 1, 1, 1, 1, 1, 1, 1, 1, 5, 1, 1, 1, 1, 3);
        doneTo("object 10 and 5", sixteen, 10, "0 1 1 1 1 1 1 1 1 1 3 1 1 1 1 3");
    }

    /** "SHORT: its VALUE becomes VALUE - 2." */
    private static void shortDownTo0() {
        for (int v = 2; v < 6; v++) {
            doneTo("short of " + v, Scene.own(4, v), 0, "" + (v - 2));
        }
    }

    /** "COUSIN: with v likewise, OBJECT 0's VALUE becomes 5, then its own v - 1." */
    private static void cousinDownTo0() {
        doneTo("cousin of 1", Scene.own(5, 2, 1), 1, "5 0");
        doneTo("cousin of 5", Scene.own(5, 2, 5), 1, "5 4");
        doneTo("object 0 itself, 1", Scene.own(5, 1, 3), 0, "0 3");
        doneTo("object 0 itself, 5", Scene.own(5, 5, 3), 0, "4 3");
    }

    private static void pinsInLists() {
        insertOfOneListPinned();
        insertOfListAPinned();
        insertOfListBPinned();
        reversePinned();
        crossPinned();
        turnPinned();
    }

    private static MoveMakers pinOne(MoveMakers x, int object) {
        x.pin(object, true);
        return x;
    }

    /** "Sort 3 .. of one LIST all from the lesser to the greater of i and j" */
    private static void insertOfOneListPinned() {
        String[] want = {"1,2 2,1", "", "0,1 1,0"};
        for (int o = 0; o < 3; o++) {
            moves("pinned at " + o, pinOne(Scene.with(Scene.lists(3), 3, 0, 0), o), 0, want[o]);
        }
    }

    /** "of LIST a all from i on" */
    private static void insertOfListAPinned() {
        String[] want = {"1,0 2,0", "2,0", ""};
        for (int o = 0; o < 3; o++) {
            moves("a pinned at " + o, pinOne(Scene.with(Scene.lists(3), 3, 0, 1), o), 0, want[o]);
        }
    }

    /** "of LIST b all from j on" */
    private static void insertOfListBPinned() {
        String[] want = {"0,1 0,2 0,3", "0,2 0,3", "0,3"};
        for (int o = 0; o < 3; o++) {
            moves("b pinned at " + o, pinOne(Scene.with(Scene.lists(1, 3), 3, 0, 1), 1 + o), 0, want[o]);
        }
    }

    /** "4: all from i to j." */
    private static void reversePinned() {
        String[] want = {"1,2 1,3 2,3", "2,3", "0,1", "0,1 0,2 1,2"};
        for (int o = 0; o < 4; o++) {
            moves("pinned at " + o, pinOne(Scene.with(Scene.lists(4), 4, 0, 0), o), 0, want[o]);
        }
        moves("pinned in the middle, where it would stay", pinOne(Scene.with(Scene.lists(3), 4, 0, 0), 1), 0, "");
    }

    /** "5: all from i, j on." */
    private static void crossPinned() {
        String[] want = {"1,0 1,1 1,2 2,0 2,1", "2,0 2,1", "0,1 0,2 1,1 1,2 2,1", "0,2 1,2"};
        for (int o = 0; o < 4; o++) {
            moves("pinned: " + o, pinOne(Scene.with(Scene.lists(2, 2), 5, 0, 1), o), 0, want[o]);
        }
        moves("both last ones pinned", pinOne(pinOne(Scene.with(Scene.lists(2, 2), 5, 0, 1), 1), 3), 0, "");
    }

    /** "6: all." */
    private static void turnPinned() {
        for (int o = 0; o < 3; o++) {
            moves("pinned at " + o, pinOne(Scene.with(Scene.lists(3, 1), 6, 0, 0), o), 0, "");
        }
        moves("one of another list pinned", pinOne(Scene.with(Scene.lists(3, 1), 6, 0, 0), 3), 0, "1,0 2,0");
    }

    private static void terms3() {
        thirtyKeptAtMost();
        sharedThrows();
        farThrows();
        shortThrows();
        cousinThrows();
        valuesThatCameSinceStay();
        backToTheFirst();
    }

    /** "DONE, a MOVE is kept for undoing, 30 at most." */
    private static void thirtyKeptAtMost() {
        MoveMakers x = Scene.own(0, 0);
        for (int n = 1; n <= 30; n++) {
            due.is("move " + n, x.does(0, 0), n);
        }
        due.is("move 31", x.does(0, 0), ROOM);
        due.is("30 are kept", x.count(2), 30);
        due.is("one undone", x.undo(), 29);
        due.is("one more", x.does(0, 0), 30);
        due.is("move 31 again", x.does(0, 0), ROOM);
        due.is("scene full is", Scene.full().count(2), 30);
        due.refused("the 31st", Scene::full, full -> full.does(0, 0), ROOM);
        due.refused("the 31st that would throw", Scene::full, full -> full.does(10, 0), ROOM);
    }

    /** "then all is as it was ahead of the MOVE, and it is not DONE" */
    private static void thrown(String what, int a, int m, int want, int... values) {
        MoveMakers x = Scene.own(a, values);
        String before = Scene.valuesOf(x);
        due.is(what, x.does(0, m), want);
        values(what, x, before);
        due.is(what + ": kept", x.count(2), 0);
        due.is(what + ": done", x.count(3), 0);
        due.is(what + ": threw", x.count(4), 1);
        due.is(what + ": nothing to undo", x.undo(), STATE);
        due.is(what + ": once more", x.does(0, m), want);
        due.is(what + ": threw", x.count(4), 2);
    }

    /** "6 ARITHMETIC (SHARED, VALUE 0)" */
    private static void sharedThrows() {
        thrown("shared by 0", 2, 1, -7, 3, 0);
        due.is("shared by 1", Scene.own(2, 3, 1).does(0, 1), 1);
    }

    /** "3 INDEX (FAR: there is no such OBJECT)" */
    private static void farThrows() {
        thrown("one behind the last", 3, 1, -4, 3, 1);
        thrown("object 0 too far", 3, 0, -4, 2, 1);
        thrown("the farthest", 3, 1, -4, 3, 5);
        thrown("16", 3, 15, -4, 3, 0, 0, 0, 0, 0, 0, 0, 0, 0, 0, 0, 0, 0, 0, 1);
        thrown("11 and 5", 3, 11, -4, 3, 0, 0, 0, 0, 0, 0, 0, 0, 0, 0, 5, 0, 0, 0, 1);
        due.is("the last", Scene.own(3, 3, 1, 4).does(0, 1), 1);
    }

    /** "4 SIZE (SHORT, VALUE below 2)" */
    private static void shortThrows() {
        thrown("short of 0", 4, 1, -5, 3, 0);
        thrown("short of 1", 4, 1, -5, 3, 1);
        due.is("short of 2", Scene.own(4, 3, 2).does(0, 1), 1);
    }

    /** "1 CAST (COUSIN, v 0)" */
    private static void cousinThrows() {
        thrown("cousin of 0", 5, 1, -2, 3, 0);
        thrown("object 0 itself", 5, 0, -2, 0, 3);
        due.is("cousin of 1", Scene.own(5, 3, 1).does(0, 1), 1);
    }

    /** "UNDONE, the latest one: all is as it was ahead of it (VALUES of OBJECTS that came since stay)" */
    private static void valuesThatCameSinceStay() {
        MoveMakers x = Scene.with(Scene.values(1), 2, 0, 0);
        due.is("1 becomes 4", x.does(0, Scene.at(x, 0, 1, 4)), 1);
        x.object(4, 9, 9);
        due.is("both 4 become 0", x.does(0, Scene.at(x, 0, 4, 0)), 2);
        x.object(3, 9, 9);
        values("three of them", x, "0 0 3");
        due.is("undone", x.undo(), 1);
        values("the third came since", x, "4 4 3");
        due.is("undone", x.undo(), 0);
        values("the second came since, too", x, "1 4 3");
        due.is("three objects still", x.count(0), 3);
        MoveMakers none = Scene.with(Scene.lists(2), 6, 0, 0);
        none.does(0, 0);
        for (int o = 2; o < 16; o++) {
            none.object(5, 1, 1);
        }
        due.is("14 came since", none.undo(), 0);
        list("a list undone", none, 0, "0 1");
        values("14 came since", none, "0 0 5 5 5 5 5 5 5 5 5 5 5 5 5 5");
    }

    /** The same over all that can be kept, and past what was thrown. */
    private static void backToTheFirst() {
        MoveMakers x = Scene.own(2, 3, 0);
        x.source(10, 0, 0);
        for (int n = 1; n <= 30; n++) {
            due.is("does " + n, x.does(1, 0), n);
        }
        for (int n = 29; n >= 0; n--) {
            due.is("undo to " + n, x.undo(), n);
            due.is("value " + n, x.objectAt(0, 0), (3 + n) % 6);
            due.is("a throw between keeps nothing", x.does(0, 1), -7);
        }
        due.is("no more to undo", x.undo(), STATE);
        values("as at first", x, "3 0");
    }

    /** "but a LAZY one: its OBJECT's VALUE is one less then, 5 behind 0, unless it is 1: that stays." */
    private static void lazyUndone() {
        int[] want = {1, 1, 2, 3, 4, 5};
        for (int v = 0; v < 6; v++) {
            MoveMakers x = Scene.own(1, v);
            due.is("lazy of " + v, x.does(0, 0), 1);
            due.is("undone", x.undo(), 0);
            values("lazy of " + v, x, "" + want[v]);
        }
        MoveMakers x = Scene.own(1, 4);
        for (int n = 1; n <= 3; n++) {
            due.is("up " + n, x.does(0, 0), n);
        }
        values("5, 0, 1", x, "1");
        for (int n = 2; n >= 0; n--) {
            due.is("undo to " + n, x.undo(), n);
            values("1 stays each time", x, "1");
        }
        MoveMakers pinned = Scene.own(1, 5);
        pinned.does(0, 0);
        pinned.pin(0, true);
        due.is("pinned since", pinned.undo(), 0);
        values("5 behind 0, pinned since", pinned, "5");
    }

    private static void draws() {
        drawnByN();
        drawnOfOne();
        drawnThreeDeep();
        sharesBelowP();
        sharesAtFirst();
        greatestSharesAndNumbers();
        drawnFromTheOtherOne();
        drawnNone();
    }

    /** "DRAWN by a number n (0 and more) is MOVE n mod (how many there are)" */
    private static void drawnByN() {
        MoveMakers x = Scene.with(Scene.values(0), 0, 0, 0);
        long[] n = {0, 1, 4, 5, 6, Integer.MAX_VALUE, 1L + Integer.MAX_VALUE, 4294967295L, 4294967296L, Long.MAX_VALUE};
        int[] want = {0, 1, 4, 0, 1, 2, 3, 0, 1, 2};
        for (int at = 0; at < n.length; at++) {
            due.is("drawn by " + n[at], x.drawn(0, n[at]), want[at]);
        }
        due.refused("drawn by -1", Scene::busy, y -> y.drawn(0, -1), OUTSIDE);
        due.refused("drawn by the least", Scene::busy, y -> y.drawn(0, Long.MIN_VALUE), OUTSIDE);
        due.refused("drawn by less than an int", Scene::busy, y -> y.drawn(0, -4294967296L), OUTSIDE);
    }

    /** The same of a source that has one move. */
    private static void drawnOfOne() {
        MoveMakers x = Scene.own(0, 2);
        x.source(8, 0, 0);
        x.source(9, 1, 0);
        for (long n : new long[] {0, 1, 2, 3, Long.MAX_VALUE}) {
            due.is("the only one by " + n, x.drawn(0, n), 0);
            due.is("the only one of each, joined, by " + n, x.drawn(1, n), n % 2);
            due.is("both, filtered, by " + n, x.drawn(2, n), n % 2);
        }
    }

    /** The same as deep as a source can be: shares of 1 tell a number's digits by two. */
    private static void drawnThreeDeep() {
        MoveMakers x = Scene.with(Scene.own(0, 2), 1, 0, 0);
        x.source(8, 0, 0);
        x.source(8, 2, 2);
        x.source(8, 3, 3);
        x.source(8, 1, 0);
        x.source(8, 5, 1);
        x.source(8, 1, 6);
        int[] want = {0, 4, 2, 6, 1, 5, 3, 7};
        for (int n = 0; n < 16; n++) {
            due.is("three deep by " + n, x.drawn(4, n), want[n % 8]);
            due.is("three deep, past those that have none, by " + n, x.drawn(7, n), 0);
        }
    }

    /** Source 2 joins ten changes and two ups. */
    private static MoveMakers tenAndTwo() {
        MoveMakers x = Scene.values(0, 3);
        x.source(0, 0, 0);
        x.source(10, 0, 0);
        x.source(8, 0, 1);
        return x;
    }

    /** "n mod (p + q) below p draws from a, else from b, by n / (p + q), cut" */
    private static void sharesBelowP() {
        MoveMakers x = tenAndTwo();
        due.is("shares", x.shares(2, 3, 2), 1);
        long[] n = {0, 2, 3, 4, 5, 7, 8, 9, 49, 50, 53};
        int[] want = {0, 0, 10, 10, 1, 1, 11, 11, 11, 0, 10};
        for (int at = 0; at < n.length; at++) {
            due.is("3 and 2, drawn by " + n[at], x.drawn(2, n[at]), want[at]);
        }
    }

    /** "with shares p and q (1 to 100, 1 at first)" */
    private static void sharesAtFirst() {
        MoveMakers x = tenAndTwo();
        int[] want = {0, 10, 1, 11, 2, 10};
        for (int n = 0; n < want.length; n++) {
            due.is("1 and 1, drawn by " + n, x.drawn(2, n), want[n]);
        }
        for (int wrong : new int[] {0, 101}) {
            due.refused("p " + wrong, Scene::busy, y -> y.shares(5, wrong, 1), OUTSIDE);
            due.refused("q " + wrong, Scene::busy, y -> y.shares(5, 1, wrong), OUTSIDE);
        }
    }

    /** The same at the ends of what shares and numbers can be. */
    private static void greatestSharesAndNumbers() {
        MoveMakers x = tenAndTwo();
        due.is("100 and 100", x.shares(2, 100, 100), 1);
        due.is("the last of p", x.drawn(2, 99), 0);
        due.is("the first of q", x.drawn(2, 100), 10);
        due.is("the last of q", x.drawn(2, 199), 10);
        due.is("p again", x.drawn(2, 200), 1);
        // 9223372036854775807 is 200 times 46116860184273879, and 7
        due.is("the greatest", x.drawn(2, Long.MAX_VALUE), 9);
        due.is("1 and 100", x.shares(2, 1, 100), 1);
        due.is("p", x.drawn(2, 0), 0);
        due.is("the first of q", x.drawn(2, 1), 10);
        due.is("the last of q", x.drawn(2, 100), 10);
        due.is("p again", x.drawn(2, 101), 1);
        due.is("100 and 1", x.shares(2, 100, 1), 1);
        due.is("the last of p", x.drawn(2, 99), 0);
        due.is("q", x.drawn(2, 100), 10);
        due.is("p again", x.drawn(2, 101), 1);
    }

    /** "if one has none, from the other one by n" */
    private static void drawnFromTheOtherOne() {
        MoveMakers x = Scene.with(Scene.with(Scene.values(0), 1, 0, 0), 0, 0, 0);
        x.source(8, 0, 1);
        x.source(8, 1, 0);
        x.shares(2, 7, 9);
        x.shares(3, 7, 9);
        for (int n = 0; n < 20; n++) {
            due.is("a has none, by " + n, x.drawn(2, n), n % 5);
            due.is("b has none, by " + n, x.drawn(3, n), n % 5);
        }
    }

    /** "NONE, if there are none" */
    private static void drawnNone() {
        MoveMakers x = Scene.with(new MoveMakers(), 0, 0, 0);
        x.source(8, 0, 0);
        x.source(9, 1, 2);
        x.source(8, 2, 1);
        for (int s = 0; s < 4; s++) {
            due.is("of source " + s + " by 0", x.drawn(s, 0), NONE);
            due.is("of source " + s + " by the greatest", x.drawn(s, Long.MAX_VALUE), NONE);
        }
    }

    /** "An object is used for at most 512 calls after it has been made" */
    private static void fiveHundredTwelveCalls() {
        MoveMakers x = Scene.own(0, 2);
        for (int n = 0; n < 254; n++) {
            x.does(0, 0);
            due.is("undo " + n, x.undo(), 0);
        }
        due.is("call 511", x.count(3), 254);
        due.is("call 512", x.objectAt(0, 0), 2);
    }
}
