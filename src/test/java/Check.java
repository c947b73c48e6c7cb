import java.util.function.ToLongFunction;

/** Compares answers with those that are due, counts the wrong ones and ends a test. */
final class Check {
    private static int wrong = 0;

    private Check() {
    }

    static void due(String what, long got, long want) {
        if (got != want) {
            tell(what + " answered " + got + ", due is " + want);
        }
    }

    static void due(String what, boolean got, boolean want) {
        if (got != want) {
            tell(what + " answered " + got + ", due is " + want);
        }
    }

    static void dueMean(String what, double got, double want) {
        if (got != want) {
            tell(what + " answered " + got + ", due is " + want);
        }
    }

    static void due(String what, String got, String want) {
        if (!got.equals(want)) {
            tell(what + " answered\n  " + got + "\n due is\n  " + want);
        }
    }

    /** The call throws exactly this exception, and all answers are those that would be without it. */
    static void refused(Scene scene, String what, Class<? extends RuntimeException> want,
            ToLongFunction<ParrotLog> call) {
        String place = scene.name() + ": " + what;
        Class<?> got = thrownBy(scene.make(), call);
        if (got != want) {
            tell(place + " threw " + got + ", due is " + want);
        }
        changesNothing(scene, place, call);
    }

    /** All answers behind the call are those that would be without it. */
    static void changesNothing(Scene scene, String what, ToLongFunction<ParrotLog> call) {
        String behind = Answers.of(() -> {
            ParrotLog log = scene.make();
            thrownBy(log, call);
            return log;
        });
        due("all answers behind " + what, behind, Answers.of(scene::make));
    }

    private static Class<?> thrownBy(ParrotLog log, ToLongFunction<ParrotLog> call) {
        try {
            call.applyAsLong(log);
        } catch (RuntimeException e) {
            return e.getClass();
        }
        return null;
    }

    static void end() {
        System.out.println(wrong == 0 ? "all answers are as due" : wrong + " answers are not as due");
        if (wrong != 0) {
            System.exit(1);
        }
    }

    private static void tell(String text) {
        wrong++;
        System.out.println(text);
    }
}
