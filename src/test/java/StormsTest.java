/** Promises 23 to 26: what is asked of storms. */
public final class StormsTest {
    private StormsTest() {
    }

    public static void main(String[] args) {
        storms();
        saidAndKept();
        wrongStorms();
        Check.end();
    }

    private static void storms() {
        ParrotLog log = new ParrotLog();
        Check.asked(log, "storms() at first", log::storms, 0);
        Check.due("isStormy() at first", log.isStormy(), false);
        log.startStorm();
        Check.asked(log, "storms() in one", log::storms, 1);
        Check.due("isStormy() in one", log.isStormy(), true);
        log.endStorm();
        Check.asked(log, "storms() behind one", log::storms, 1);
        Check.due("isStormy() behind one", log.isStormy(), false);
        log.startStorm();
        Check.asked(log, "storms() in the second", log::storms, 2);
    }

    private static void saidAndKept() {
        ParrotLog log = Logs.saying(2);
        log.startStorm();
        Check.asked(log, "saidIn(0) at its beginning", () -> log.saidIn(0), 0);
        log.say(0, 5);
        log.say(0, 6);
        log.say(1, 7);
        Check.asked(log, "saidIn(0) while it is on", () -> log.saidIn(0), 3);
        Check.asked(log, "keptOf(0) while it is on", () -> log.keptOf(0), 3);
        log.endStorm();
        log.say(0, 8);
        log.startStorm();
        log.say(2, 9);
        Check.asked(log, "saidIn(0) behind it", () -> log.saidIn(0), 3);
        Check.asked(log, "saidIn(1)", () -> log.saidIn(1), 1);
        log.endStorm();
        log.trimTo(3);
        Check.asked(log, "keptOf(0) trimmed", () -> log.keptOf(0), 2);
        log.compact();
        Check.asked(log, "keptOf(0) compacted", () -> log.keptOf(0), 1);
        Check.asked(log, "saidIn(0) compacted", () -> log.saidIn(0), 3);
        log.replay(0);
        Check.asked(log, "keptOf(0) replayed", () -> log.keptOf(0), 1);
        Check.asked(log, "saidIn(0) replayed", () -> log.saidIn(0), 3);
        Check.asked(log, "saidIn(1) behind a replay", () -> log.saidIn(1), 1);
    }

    private static void wrongStorms() {
        ParrotLog none = new ParrotLog();
        Check.refused(none, "saidIn(0) without any", IndexOutOfBoundsException.class, () -> none.saidIn(0));
        Check.refused(none, "keptOf(0) without any", IndexOutOfBoundsException.class, () -> none.keptOf(0));
        ParrotLog log = Logs.mixed();
        int[] wrong = {Integer.MIN_VALUE, -1, log.storms(), 8, Integer.MAX_VALUE};
        Check.refusedNumbers(log, "saidIn", log::saidIn, wrong);
        Check.refusedNumbers(log, "keptOf", log::keptOf, wrong);
    }
}
