import java.util.function.IntToLongFunction;
import java.util.function.LongSupplier;

/** Compares answers with those that are due, counts the wrong ones and ends a test. */
final class Check {
    private static int wrong = 0;

    private Check() {
    }

    static void due(String what, long got, long want) {
        if (got != want) {
            tell(what + " answered " + got + ", due is " + want);
        }
    }

    static void due(String what, boolean got, boolean want) {
        if (got != want) {
            tell(what + " answered " + got + ", due is " + want);
        }
    }

    static void dueMean(String what, double got, double want) {
        if (got != want) {
            tell(what + " answered " + got + ", due is " + want);
        }
    }

    static void due(String what, String got, String want) {
        if (!got.equals(want)) {
            tell(what + " answered\n  " + got + "\n due is\n  " + want);
        }
    }

    /** The call throws exactly this exception, and the log answers all questions as before. */
    static void refused(ParrotLog log, String what, Class<? extends RuntimeException> want, LongSupplier call) {
        String before = Answers.of(log);
        Class<?> got = null;
        try {
            call.getAsLong();
        } catch (RuntimeException e) {
            got = e.getClass();
        }
        if (got != want) {
            tell(what + " threw " + got + ", due is " + want);
        }
        due(what + " refused, and all answers behind it", Answers.of(log), before);
    }

    /** The question refuses each of these numbers of keys, storms or ships. */
    static void refusedNumbers(ParrotLog log, String name, IntToLongFunction question, int[] wrong) {
        for (int number : wrong) {
            refused(log, name + "(" + number + ")", IndexOutOfBoundsException.class,
                    () -> question.applyAsLong(number));
        }
    }

    /** The call answers this, and the log answers all questions as before. */
    static void asked(ParrotLog log, String what, LongSupplier call, long want) {
        String before = Answers.of(log);
        due(what, call.getAsLong(), want);
        due(what + " asked, and all answers behind it", Answers.of(log), before);
    }

    static void end() {
        System.out.println(wrong == 0 ? "all answers are as due" : wrong + " answers are not as due");
        if (wrong != 0) {
            System.exit(1);
        }
    }

    private static void tell(String text) {
        wrong++;
        System.out.println(text);
    }
}
