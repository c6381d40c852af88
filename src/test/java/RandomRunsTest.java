import java.util.Random;

/** Long random runs, the same each time: every answer is compared with the plain model's. */
public final class RandomRunsTest {
    /** What an object answers behind its 512th call is free; the last hundred calls look at the moves. */
    private static final int RUNS = 2000, CALLS = 512, LOOKING = 100, NONE = -109;
    private static final Due due = new Due("RandomRunsTest");

    private final Random random;
    private final MoveMakers x = new MoveMakers();
    private final Model model = new Model();
    private final int run;
    private int calls = 0;
    /** What this run likes to do: with few pins there are more moves, with few undos more are kept. */
    private final int pinShare;
    private final int undoShare;
    private final int ownShare;

    private RandomRunsTest(int run) {
        this.run = run;
        random = new Random(7919L * run + 13);
        pinShare = random.nextInt(4);
        undoShare = 1 + random.nextInt(12);
        ownShare = random.nextInt(3);
    }

    public static void main(String[] args) {
        for (int run = 0; run < RUNS && due.isClean(); run++) {
            new RandomRunsTest(run).play();
        }
        due.end();
    }

    private void play() {
        int objects = random.nextInt(17);
        for (int o = 0; o < objects; o++) {
            object();
            if (random.nextInt(5) > 0) {
                enlist();
            }
        }
        while (calls < CALLS - LOOKING && due.isClean()) {
            call();
        }
        is("digest", x.digest(), model.digest());
        int sources = model.count(1);
        for (int s = 0; s < sources; s++) {
            someMoves((s + run) % sources);
        }
    }

    private void is(String call, int got, int want) {
        calls++;
        due.is("run " + run + ", call " + calls + ": " + call, got, want);
    }

    /** Mostly a number from 0 to below bound, at times one that is not. */
    private int about(int bound) {
        switch (random.nextInt(40)) {
            case 0:
                return bound + random.nextInt(2);
            case 1:
                return -1;
            case 2:
                return random.nextInt();
            default:
                return random.nextInt(Math.max(1, bound));
        }
    }

    private void call() {
        int kind = random.nextInt(40);
        if (kind < 2) {
            object();
        } else if (kind < 5) {
            enlist();
        } else if (kind < 5 + pinShare) {
            pin();
        } else if (kind < 13) {
            source();
        } else if (kind < 23) {
            does();
        } else if (kind < 23 + undoShare) {
            is("undo", x.undo(), model.undo());
        } else {
            ask();
            return;
        }
        is("digest", x.digest(), model.digest());
    }

    private void object() {
        int value = about(6);
        int px = about(random.nextBoolean() ? 4 : 101);
        int py = about(random.nextBoolean() ? 4 : 101);
        is("object", x.object(value, px, py), model.object(value, px, py));
    }

    private void enlist() {
        int object = about(model.count(0));
        int list = random.nextInt(12) == 0 ? NONE : about(random.nextBoolean() ? 2 : 4);
        is("enlist", x.enlist(object, list), model.enlist(object, list));
    }

    private void pin() {
        int object = about(model.count(0));
        boolean on = random.nextInt(3) == 0;
        is("pin", x.pin(object, on), model.pin(object, on));
    }

    private void source() {
        int sort = random.nextInt(3) < ownShare ? 8 + random.nextInt(3) : about(11);
        int a;
        int b;
        if (sort == 8 || sort == 9) {
            a = about(model.count(1));
            b = sort == 8 ? about(model.count(1)) : about(3);
        } else if (sort == 7) {
            a = 1 + about(15);
            b = random.nextInt();
        } else if (sort == 10) {
            a = about(6);
            b = random.nextInt();
        } else {
            a = about(random.nextBoolean() ? 2 : 4);
            b = about(random.nextBoolean() ? 2 : 4);
        }
        is("source " + sort + " " + a + " " + b, x.source(sort, a, b), model.source(sort, a, b));
        if (sort == 8 || random.nextInt(10) == 0) {
            int s = sort == 8 ? model.count(1) - 1 : about(model.count(1));
            int p = about(random.nextBoolean() ? 5 : 101);
            int q = about(random.nextBoolean() ? 5 : 101);
            is("shares", x.shares(s, p, q), model.shares(s, p, q));
        }
    }

    private void does() {
        int source = about(model.count(1));
        int m = about(model.many(source));
        is("does " + source + " " + m, x.does(source, m), model.does(source, m));
    }

    private void ask() {
        int object = about(model.count(0));
        int source = about(model.count(1));
        int what = about(5);
        switch (random.nextInt(7)) {
            case 0:
                is("objectAt", x.objectAt(object, what), model.objectAt(object, what));
                break;
            case 1:
                int list = about(4);
                int place = about(16);
                is("listed", x.listed(list, place), model.listed(list, place));
                break;
            case 2:
                is("many", x.many(source), model.many(source));
                break;
            case 3:
                int m = about(model.many(source));
                is("move", x.move(source, m, what), model.move(source, m, what));
                break;
            case 4:
                long n = random.nextInt(3) == 0 ? random.nextLong() : random.nextInt(1000);
                is("drawn", x.drawn(source, n), model.drawn(source, n));
                break;
            case 5:
                is("judge", x.judge(what), model.judge(what));
                break;
            default:
                is("count", x.count(what), model.count(what));
                if (random.nextInt(40) == 0) {
                    is("clear", x.clear(), model.clear());
                }
                break;
        }
    }

    /** How many, and some of them with what lies behind the last, as long as calls are left. */
    private void someMoves(int source) {
        if (calls + 25 > CALLS) {
            return;
        }
        int many = model.many(source);
        is("many", x.many(source), many);
        for (int m = 0; m <= many; m += 1 + many / 5) {
            for (int what = 0; what < 4; what++) {
                is("move " + m, x.move(source, m, what), model.move(source, m, what));
            }
        }
    }
}
