import java.util.function.Supplier;
import java.util.function.ToIntFunction;

/** Compares answers with those that are due, and prints each one that is not. */
final class Due {
    private final String test;
    private int asked = 0;
    private int wrong = 0;

    Due(String test) {
        this.test = test;
    }

    void is(String call, long got, long want) {
        asked++;
        if (got != want) {
            wrong++;
            System.out.println(test + ": " + call + " answered " + got + ", due is " + want);
        }
    }

    void holds(String what, boolean holds) {
        asked++;
        if (!holds) {
            wrong++;
            System.out.println(test + ": does not hold: " + what);
        }
    }

    void same(String what, String got, String want) {
        asked++;
        if (!got.equals(want)) {
            wrong++;
            System.out.println(test + ": " + what + " is " + got + ", due is " + want);
        }
    }

    /** A call that is refused answers so, and changes nothing. */
    void refused(String call, Supplier<MoveMakers> scene, ToIntFunction<MoveMakers> made, int want) {
        MoveMakers x = scene.get();
        is(call, made.applyAsInt(x), want);
        same("behind " + call + " all", Scene.picture(x), Scene.picture(scene.get()));
    }

    boolean isClean() {
        return wrong == 0;
    }

    void end() {
        System.out.println(test + ": " + asked + " asked, " + wrong + " wrong");
        if (wrong != 0) {
            System.exit(1);
        }
    }
}
