/** Promises 1 to 6 and 15 to 17: objects, lists, pins, digest, count, clear. */
public final class ObjectsTest {
    private static final int UNKNOWN = -101, OUTSIDE = -102, STATE = -103, ROOM = -104, NONE = -109;
    private static final int[] WRONG = {-1, Integer.MIN_VALUE, Integer.MAX_VALUE, NONE};
    private static final Due due = new Due("ObjectsTest");

    public static void main(String[] args) {
        aNewObject();
        object();
        enlist();
        pin();
        objectAt();
        listed();
        digest();
        count();
        clear();
        due.end();
    }

    private static void asAtTheBeginning(String when, MoveMakers x) {
        for (int what = 0; what < 5; what++) {
            due.is(when + " count " + what, x.count(what), 0);
        }
        for (int list = 0; list < 4; list++) {
            due.is(when + " listed", x.listed(list, 0), NONE);
        }
        due.is(when + " undo", x.undo(), STATE);
        due.is(when + " objectAt", x.objectAt(0, 0), UNKNOWN);
        due.is(when + " many", x.many(0), UNKNOWN);
        int d = 17;
        for (int list = 0; list < 4; list++) {
            d = 31 * d + 77;
        }
        due.is(when + " digest", x.digest(), d);
    }

    private static void aNewObject() {
        asAtTheBeginning("new", new MoveMakers());
        due.is("UNKNOWN", MoveMakers.UNKNOWN, UNKNOWN);
        due.is("OUTSIDE", MoveMakers.OUTSIDE, OUTSIDE);
        due.is("STATE", MoveMakers.STATE, STATE);
        due.is("ROOM", MoveMakers.ROOM, ROOM);
        due.is("NONE", MoveMakers.NONE, NONE);
        MoveMakers one = new MoveMakers();
        one.object(1, 1, 1);
        due.is("objects share nothing", new MoveMakers().count(0), 0);
    }

    private static void object() {
        MoveMakers x = new MoveMakers();
        for (int bad : WRONG) {
            due.is("object value", x.object(bad, 0, 0), OUTSIDE);
            due.is("object x", x.object(0, bad, 0), OUTSIDE);
            due.is("object y", x.object(0, 0, bad), OUTSIDE);
        }
        due.is("object value 6", x.object(6, 0, 0), OUTSIDE);
        due.is("object x 101", x.object(0, 101, 0), OUTSIDE);
        due.is("object y 101", x.object(0, 0, 101), OUTSIDE);
        due.is("none of these came", x.count(0), 0);
        for (int o = 0; o < 16; o++) {
            due.is("object " + o, x.object(o % 6, 100 * (o % 2), 100), o);
            due.is("its value", x.objectAt(o, 0), o % 6);
            due.is("its list", x.objectAt(o, 1), NONE);
            due.is("its place", x.objectAt(o, 2), NONE);
            due.is("its pin", x.objectAt(o, 3), 0);
        }
        due.is("the 17th", x.object(0, 0, 0), ROOM);
        due.is("the 17th, outside", x.object(0, 0, 101), OUTSIDE);
        due.is("16 stay", x.count(0), 16);
    }

    private static void enlist() {
        MoveMakers x = threeInTwo();
        due.is("no such object", x.enlist(3, 0), UNKNOWN);
        for (int bad : WRONG) {
            due.is("no such object", x.enlist(bad, 0), UNKNOWN);
            if (bad != NONE) {
                due.is("no such list", x.enlist(0, bad), UNKNOWN);
            }
        }
        due.is("no such list", x.enlist(0, 4), UNKNOWN);
        due.is("behind its own list", x.enlist(0, 2), 1);
        due.is("the others move up", x.listed(2, 0), 1);
        due.is("it is the last", x.listed(2, 2), 0);
        due.is("into another list", x.enlist(1, 3), 1);
        due.is("out of where it was", x.listed(2, 0), 2);
        due.is("and no longer there", x.listed(2, 2), NONE);
        due.is("it is there", x.listed(3, 0), 1);
        due.is("into none", x.enlist(2, NONE), 1);
        due.is("list", x.objectAt(2, 1), NONE);
        due.is("place", x.objectAt(2, 2), NONE);
        due.is("into none again", x.enlist(2, NONE), 1);
        due.is("the other moves up", x.objectAt(0, 2), 0);
        x.pin(0, true);
        due.is("a pinned one is enlisted all the same", x.enlist(0, 0), 1);
        due.is("there", x.listed(0, 0), 0);
        x.pin(0, false);
        x.source(0, 0, 0);
        x.does(0, 0);
        int before = x.digest();
        due.is("something is done", x.enlist(0, 1), STATE);
        due.is("something is done, into none", x.enlist(0, NONE), STATE);
        due.is("unknown comes ahead of state", x.enlist(0, 4), UNKNOWN);
        due.is("nothing changes", x.digest(), before);
        x.undo();
        due.is("nothing is done any more", x.enlist(0, 1), 1);
        sixteenInOneList();
    }

    private static void sixteenInOneList() {
        MoveMakers x = new MoveMakers();
        for (int o = 0; o < 16; o++) {
            x.object(0, 0, 0);
            due.is("enlist " + o, x.enlist(o, 1), 1);
        }
        for (int o = 0; o < 16; o++) {
            due.is("place " + o, x.objectAt(o, 2), o);
        }
        due.is("the first goes to the end", x.enlist(0, 1), 1);
        due.is("the end", x.listed(1, 15), 0);
    }

    private static MoveMakers threeInTwo() {
        MoveMakers x = new MoveMakers();
        for (int o = 0; o < 3; o++) {
            x.object(o, 0, 0);
            due.is("enlist", x.enlist(o, 2), 1);
        }
        return x;
    }

    private static void pin() {
        MoveMakers x = new MoveMakers();
        due.is("no such object", x.pin(0, true), UNKNOWN);
        x.object(0, 0, 0);
        due.is("pin", x.pin(0, true), 0);
        due.is("pin again", x.pin(0, true), 1);
        due.is("it is", x.objectAt(0, 3), 1);
        due.is("unpin", x.pin(0, false), 1);
        due.is("unpin again", x.pin(0, false), 0);
        due.is("it is not", x.objectAt(0, 3), 0);
        for (int bad : WRONG) {
            due.is("no such object", x.pin(bad, true), UNKNOWN);
        }
        due.is("no such object", x.pin(1, true), UNKNOWN);
    }

    private static void objectAt() {
        MoveMakers x = threeInTwo();
        due.is("value", x.objectAt(2, 0), 2);
        due.is("list", x.objectAt(2, 1), 2);
        due.is("place", x.objectAt(2, 2), 2);
        due.is("pinned", x.objectAt(2, 3), 0);
        due.is("what 4", x.objectAt(2, 4), OUTSIDE);
        due.is("no such object", x.objectAt(3, 0), UNKNOWN);
        for (int bad : WRONG) {
            due.is("what", x.objectAt(2, bad), OUTSIDE);
            due.is("object", x.objectAt(bad, 0), UNKNOWN);
            due.is("object and what", x.objectAt(bad, bad), UNKNOWN);
        }
    }

    private static void listed() {
        MoveMakers x = threeInTwo();
        x.object(0, 0, 0);
        for (int o = 0; o < 3; o++) {
            due.is("listed", x.listed(2, o), o);
        }
        due.is("behind the last", x.listed(2, 3), NONE);
        due.is("an empty list", x.listed(1, 0), NONE);
        due.is("no such list", x.listed(4, 0), UNKNOWN);
        for (int bad : WRONG) {
            due.is("place", x.listed(2, bad), NONE);
            due.is("list", x.listed(bad, 0), UNKNOWN);
            due.is("list and place", x.listed(bad, bad), UNKNOWN);
        }
    }

    private static void digest() {
        MoveMakers x = new MoveMakers();
        int[] values = {3, 0, 5};
        int d = 17;
        for (int value : values) {
            x.object(value, 7, 7);
            d = 31 * d + value;
        }
        int bare = d;
        for (int list = 0; list < 4; list++) {
            bare = 31 * bare + 77;
        }
        due.is("objects in no list", x.digest(), bare);
        x.enlist(2, 1);
        x.enlist(0, 1);
        x.enlist(1, 3);
        d = 31 * d + 77;
        d = 31 * d + 2;
        d = 31 * d;
        d = 31 * d + 77;
        d = 31 * d + 77;
        d = 31 * d + 1;
        d = 31 * d + 77;
        due.is("objects in lists", x.digest(), d);
        x.pin(0, true);
        x.source(0, 0, 0);
        due.is("pins and sources are not in it", x.digest(), d);
    }

    private static void count() {
        MoveMakers x = new MoveMakers();
        x.object(0, 0, 0);
        x.object(3, 0, 0);
        x.source(10, 2, 0);
        due.is("objects", x.count(0), 2);
        due.is("sources", x.count(1), 1);
        x.does(0, 0);
        x.does(0, 1);
        x.does(0, 1);
        due.is("kept", x.count(2), 2);
        due.is("done", x.count(3), 2);
        due.is("threw", x.count(4), 1);
        x.undo();
        due.is("kept behind an undo", x.count(2), 1);
        due.is("done behind an undo", x.count(3), 2);
        x.judge(2);
        x.judge(0);
        due.is("judging is not doing", x.count(3), 2);
        due.is("nor throwing", x.count(4), 1);
        x.does(0, 9);
        due.is("an unknown move is not done", x.count(3), 2);
        due.is("what 5", x.count(5), OUTSIDE);
        for (int bad : WRONG) {
            due.is("what", x.count(bad), OUTSIDE);
        }
    }

    private static void clear() {
        MoveMakers x = new MoveMakers();
        due.is("clear of nothing", x.clear(), 0);
        for (int o = 0; o < 3; o++) {
            x.object(o, o, o);
            x.enlist(o, o);
            x.pin(o, o == 2);
        }
        x.source(10, 2, 0);
        x.source(8, 0, 0);
        x.shares(1, 5, 7);
        x.does(0, 0);
        x.does(0, 1);
        due.is("clear", x.clear(), 3);
        asAtTheBeginning("cleared", x);
        due.is("numbers from 0 on", x.object(2, 0, 0), 0);
        due.is("in no list", x.objectAt(0, 1), NONE);
        due.is("second", x.object(1, 0, 0), 1);
        due.is("third", x.object(1, 0, 0), 2);
        due.is("not pinned", x.objectAt(2, 3), 0);
        due.is("source", x.source(0, 0, 0), 0);
        due.is("joined", x.source(8, 0, 0), 1);
        due.is("shares are 1 again", x.drawn(1, 1), 15);
        due.is("enlist", x.enlist(0, 0), 1);
    }
}
