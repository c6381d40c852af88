import java.util.function.ToIntFunction;

/** Objects of MoveMakers as the tests begin with, and pictures of them; all within the 512 calls of the document. */
final class Scene {
    private static final int NONE = -109;
    /** Numbers that are nothing's: below, far below, far above, and the answers themselves. */
    static final int[] WILD = {-1, -2, Integer.MIN_VALUE, Integer.MAX_VALUE, -101, -102, -103, -104};

    private Scene() {
    }

    static MoveMakers values(int... values) {
        MoveMakers x = new MoveMakers();
        for (int value : values) {
            x.object(value, 0, 0);
        }
        return x;
    }

    /** Objects of value 0 as they come, so many in each list. */
    static MoveMakers lists(int... lengths) {
        MoveMakers x = new MoveMakers();
        int object = 0;
        for (int list = 0; list < lengths.length; list++) {
            for (int place = 0; place < lengths[list]; place++) {
                x.object(0, 0, 0);
                x.enlist(object, list);
                object++;
            }
        }
        return x;
    }

    static MoveMakers with(MoveMakers x, int sort, int a, int b) {
        x.source(sort, a, b);
        return x;
    }

    /** Objects of these values, and one source of a sort of one's own. */
    static MoveMakers own(int sort, int... values) {
        return with(values(values), 10, sort, 0);
    }

    /** Something of each kind, and nothing kept; source 7 is 3 deep, 5 is joined, move 1 of 4 has thrown. */
    static MoveMakers idle() {
        MoveMakers x = new MoveMakers();
        int[][] objects = {{3, 0, 0}, {0, 10, 0}, {5, 0, 5}, {1, 50, 50}, {1, 100, 100}};
        int[] lists = {0, 0, 0, 1, NONE};
        for (int o = 0; o < objects.length; o++) {
            x.object(objects[o][0], objects[o][1], objects[o][2]);
            x.enlist(o, lists[o]);
        }
        x.pin(3, true);
        int[][] sources = {{0, 0, 0}, {7, 2, 0}, {3, 0, 1}, {10, 1, 0}, {10, 2, 0}, {8, 0, 3}, {9, 5, 1}, {8, 6, 0},
            {1, 0, 0}};
        for (int[] s : sources) {
            x.source(s[0], s[1], s[2]);
        }
        x.shares(5, 3, 2);
        x.does(4, 1);
        return x;
    }

    /** The same with two moves kept, of which the latest is a lazy one that forgets. */
    static MoveMakers busy() {
        MoveMakers x = idle();
        x.does(0, 0);
        x.does(3, 1);
        return x;
    }

    /** 16 objects, 12 sources, 30 moves kept; source 8 is 3 deep, 6 is joined, 10 has moves that throw. */
    static MoveMakers full() {
        MoveMakers x = new MoveMakers();
        for (int o = 0; o < 16; o++) {
            x.object(o % 6, o, 100 - o);
            x.enlist(o, o % 4);
        }
        int[][] sources = {{0, 0, 0}, {7, 15, 0}, {3, 0, 1}, {4, 2, 0}, {5, 0, 3}, {6, 1, 0}, {8, 0, 1}, {9, 6, 1},
            {8, 7, 0}, {10, 1, 0}, {10, 2, 0}, {2, 0, 0}};
        for (int[] s : sources) {
            x.source(s[0], s[1], s[2]);
        }
        x.shares(6, 3, 2);
        int[] doing = {0, 3, 5, 9, 1};
        for (int n = 0; n < 30; n++) {
            x.does(doing[n % 5], n % 5 == 3 ? n % 16 : 0);
        }
        return x;
    }

    /** All moves of a source: "i,j i,j ..". */
    static String moves(MoveMakers x, int source) {
        StringBuilder text = new StringBuilder();
        int many = x.many(source);
        for (int m = 0; m < many; m++) {
            text.append(m == 0 ? "" : " ").append(x.move(source, m, 1)).append(',').append(x.move(source, m, 2));
        }
        return text.toString();
    }

    /** The objects of a list, in its order. */
    static String list(MoveMakers x, int list) {
        StringBuilder text = new StringBuilder();
        for (int place = 0; place <= 16 && x.listed(list, place) != NONE; place++) {
            text.append(place == 0 ? "" : " ").append(x.listed(list, place));
        }
        return text.toString();
    }

    static String valuesOf(MoveMakers x) {
        return ofObjects(x, o -> x.objectAt(o, 0));
    }

    private static String ofObjects(MoveMakers x, ToIntFunction<Integer> ask) {
        StringBuilder text = new StringBuilder();
        int objects = x.count(0);
        for (int o = 0; o < objects; o++) {
            text.append(o == 0 ? "" : " ").append(ask.applyAsInt(o));
        }
        return text.toString();
    }

    /** The number of the move with these i and j; -1 if there is none. */
    static int at(MoveMakers x, int source, int i, int j) {
        int many = x.many(source);
        for (int m = 0; m < many; m++) {
            if (x.move(source, m, 1) == i && x.move(source, m, 2) == j) {
                return m;
            }
        }
        return -1;
    }

    /** All that calls can tell of it. In the end all kept moves are undone, for what is kept belongs to it. */
    static String picture(MoveMakers x) {
        StringBuilder text = new StringBuilder("counts");
        for (int what = 0; what < 5; what++) {
            text.append(' ').append(x.count(what));
        }
        for (int what = 0; what < 4; what++) {
            int asked = what;
            text.append("; objects ").append(ofObjects(x, o -> x.objectAt(o, asked)));
        }
        for (int list = 0; list < 4; list++) {
            text.append("; list ").append(list(x, list));
        }
        int sources = x.count(1);
        for (int s = 0; s < sources; s++) {
            text.append("; source ").append(pictureOfSource(x, s));
        }
        text.append("; digests ").append(x.digest());
        while (x.undo() >= 0) {
            text.append(' ').append(x.digest());
        }
        return text.toString();
    }

    private static String pictureOfSource(MoveMakers x, int source) {
        int many = x.many(source);
        StringBuilder text = new StringBuilder().append(many);
        for (long n : new long[] {0, 2, 3, 4, 1234567}) {
            text.append(' ').append(x.drawn(source, n));
        }
        for (int what = 0; what < 3; what++) {
            text.append(' ').append(x.move(source, many - 1, what));
        }
        return text.toString();
    }
}
