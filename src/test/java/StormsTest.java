/** Promises 23 to 26: what is asked of storms. What they refuse stands in RefusalTest. */
public final class StormsTest {
    private StormsTest() {
    }

    public static void main(String[] args) {
        storms();
        eightStorms();
        saidAndKept();
        moreThanTheLogKeeps();
        replayedPhrasesAreOfNoStorm();
        Check.end();
    }

    private static void storms() {
        ParrotLog log = new ParrotLog();
        Check.due("storms() at first", log.storms(), 0);
        Check.due("isStormy() at first", log.isStormy(), false);
        log.startStorm();
        Check.due("storms() in one", log.storms(), 1);
        Check.due("isStormy() in one", log.isStormy(), true);
        log.endStorm();
        Check.due("storms() behind one", log.storms(), 1);
        Check.due("isStormy() behind one", log.isStormy(), false);
        log.startStorm();
        Check.due("storms() in the second", log.storms(), 2);
        Check.due("isStormy() in the second", log.isStormy(), true);
    }

    private static void eightStorms() {
        ParrotLog log = Logs.fullInAStorm();
        Check.due("storms() in the 8th", log.storms(), 8);
        int[] kept = {0, 6, 7, 7, 7, 7, 7, 7};
        for (int storm = 0; storm < 8; storm++) {
            Check.due("saidIn(" + storm + ") of 8", log.saidIn(storm), 7);
            Check.due("keptOf(" + storm + ") of 8", log.keptOf(storm), kept[storm]);
        }
        log.say(1, 1);
        Check.due("saidIn(7) of the one that is on", log.saidIn(7), 8);
        Check.due("keptOf(7) of the one that is on", log.keptOf(7), 8);
        Check.due("keptOf(1) as one more is dropped", log.keptOf(1), 5);
        log.endStorm();
        Check.due("storms() behind the 8th", log.storms(), 8);
        Check.due("isStormy() behind the 8th", log.isStormy(), false);
    }

    private static void saidAndKept() {
        ParrotLog log = Logs.saying(2);
        log.startStorm();
        Check.due("saidIn(0) at its beginning", log.saidIn(0), 0);
        Check.due("keptOf(0) at its beginning", log.keptOf(0), 0);
        log.say(0, 5);
        log.say(0, 6);
        log.say(1, 7);
        Check.due("saidIn(0) while it is on", log.saidIn(0), 3);
        Check.due("keptOf(0) while it is on", log.keptOf(0), 3);
        log.endStorm();
        log.say(0, 8);
        log.startStorm();
        log.say(2, 9);
        Check.due("saidIn(0) behind it", log.saidIn(0), 3);
        Check.due("saidIn(1)", log.saidIn(1), 1);
        log.endStorm();
        log.trimTo(3);
        Check.due("keptOf(0) trimmed", log.keptOf(0), 2);
        log.compact();
        Check.due("keptOf(0) compacted", log.keptOf(0), 1);
        Check.due("saidIn(0) compacted", log.saidIn(0), 3);
        log.trimTo(log.nextOffset());
        Check.due("keptOf(0) of none", log.keptOf(0), 0);
        Check.due("saidIn(0) of none", log.saidIn(0), 3);
    }

    private static void moreThanTheLogKeeps() {
        ParrotLog log = new ParrotLog();
        log.startStorm();
        for (int i = 0; i < 48; i++) {
            log.say(1, i);
        }
        Check.due("saidIn(0) of 48", log.saidIn(0), 48);
        Check.due("keptOf(0) of 48", log.keptOf(0), 48);
        log.say(1, 48);
        Check.due("saidIn(0) of 49", log.saidIn(0), 49);
        Check.due("keptOf(0) of 49", log.keptOf(0), 48);
    }

    private static void replayedPhrasesAreOfNoStorm() {
        ParrotLog log = Logs.mixed();
        log.startStorm();
        log.endStorm();
        log.replay(0);
        Check.due("saidIn(0) replayed", log.saidIn(0), 2);
        Check.due("keptOf(0) replayed", log.keptOf(0), 2);
        Check.due("saidIn(1) behind a replay", log.saidIn(1), 0);
        Check.due("keptOf(1) behind a replay", log.keptOf(1), 0);
    }
}
