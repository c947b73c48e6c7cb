/** Promises 11 to 22: what is asked of the log. What it refuses stands in RefusalTest. */
public final class LogTest {
    private LogTest() {
    }

    public static void main(String[] args) {
        emptyLog();
        logThatIsEmptyAgain();
        hours();
        counts();
        droppedInEachWay();
        firstOffset();
        isKept();
        partsOfPhrases();
        stormAt();
        latest();
        latestAtTheOffsetZero();
        latestOfADroppedKey();
        leastAndGreatestKey();
        aFullLogOfOneKey();
        fullLog();
        Check.end();
    }

    private static void emptyLog() {
        ParrotLog log = new ParrotLog();
        Check.due("empty: hours()", log.hours(), 0);
        Check.due("empty: phrases()", log.phrases(), 0);
        Check.due("empty: nextOffset()", log.nextOffset(), 0);
        Check.due("empty: firstOffset()", log.firstOffset(), -1);
        Check.due("empty: dropped()", log.dropped(), 0);
        Check.due("empty: isKept(0)", log.isKept(0), false);
        Check.due("empty: isKept(-1)", log.isKept(-1), false);
        dueNoKeys("empty", log);
    }

    private static void logThatIsEmptyAgain() {
        ParrotLog log = Logs.mixed();
        log.trimTo(8);
        Check.due("trimmed: phrases()", log.phrases(), 0);
        Check.due("trimmed: nextOffset()", log.nextOffset(), 8);
        Check.due("trimmed: firstOffset()", log.firstOffset(), -1);
        Check.due("trimmed: dropped()", log.dropped(), 8);
        for (int offset = -1; offset <= 8; offset++) {
            Check.due("trimmed: isKept(" + offset + ")", log.isKept(offset), false);
        }
        dueNoKeys("trimmed", log);
    }

    private static void dueNoKeys(String when, ParrotLog log) {
        for (int key = 0; key < 10; key++) {
            Check.due(when + ": latestOf(" + key + ")", log.latestOf(key), -1);
            Check.due(when + ": valueOf(" + key + ")", log.valueOf(key), 0);
            Check.due(when + ": countOf(" + key + ")", log.countOf(key), 0);
        }
    }

    private static void hours() {
        ParrotLog log = new ParrotLog();
        log.passHours(60);
        log.startStorm();
        log.passHours(5);
        Check.due("hours() of two goings", log.hours(), 65);
    }

    private static void counts() {
        ParrotLog log = Logs.mixed();
        Check.due("hours()", log.hours(), 1);
        Check.due("phrases()", log.phrases(), 5);
        Check.due("nextOffset()", log.nextOffset(), 8);
        Check.due("firstOffset()", log.firstOffset(), 2);
        Check.due("dropped()", log.dropped(), 3);
    }

    private static void droppedInEachWay() {
        ParrotLog log = Logs.saying(50);
        Check.due("dropped() as the log is full", log.dropped(), 2);
        log.trimTo(5);
        Check.due("dropped() as it is trimmed too", log.dropped(), 5);
        log.compact();
        Check.due("dropped() as it is compacted too", log.dropped(), 40);
        ParrotLog replayed = Logs.fullInAStorm();
        replayed.endStorm();
        Check.due("dropped() ahead of a replay", replayed.dropped(), 8);
        replayed.replay(7);
        Check.due("dropped() as a full log is replayed to", replayed.dropped(), 15);
    }

    private static void firstOffset() {
        ParrotLog log = new ParrotLog();
        log.say(3, 3);
        Check.due("firstOffset() of one", log.firstOffset(), 0);
        log.say(3, 0);
        log.compact();
        Check.due("firstOffset() as compacting drops all", log.firstOffset(), -1);
        log.say(3, 1);
        Check.due("firstOffset() of one behind it", log.firstOffset(), 2);
    }

    private static void isKept() {
        ParrotLog log = Logs.mixed();
        boolean[] kept = {false, false, true, true, false, true, true, true, false};
        for (int offset = 0; offset < kept.length; offset++) {
            Check.due("isKept(" + offset + ")", log.isKept(offset), kept[offset]);
        }
        Check.due("isKept(-1)", log.isKept(-1), false);
        Check.due("isKept(MIN)", log.isKept(Integer.MIN_VALUE), false);
        Check.due("isKept(MAX)", log.isKept(Integer.MAX_VALUE), false);
        Check.due("isKept(0) of the first one", Logs.saying(1).isKept(0), true);
    }

    private static void partsOfPhrases() {
        ParrotLog log = Logs.mixed();
        int[] offsets = {2, 3, 5, 6, 7};
        int[] keys = {2, 3, 1, 2, 4};
        int[] values = {3, 4, -5, 0, 0};
        for (int i = 0; i < offsets.length; i++) {
            Check.due("keyAt(" + offsets[i] + ")", log.keyAt(offsets[i]), keys[i]);
            Check.due("valueAt(" + offsets[i] + ")", log.valueAt(offsets[i]), values[i]);
        }
        ParrotLog full = Logs.full();
        Check.due("keyAt(8) of the first of 48", full.keyAt(8), 8);
        Check.due("valueAt(8) of the first of 48", full.valueAt(8), -20);
        Check.due("stormAt(8) of the first of 48", full.stormAt(8), 1);
        Check.due("keyAt(55) of the last of 48", full.keyAt(55), 5);
        Check.due("valueAt(55) of the last of 48", full.valueAt(55), 27);
        Check.due("stormAt(55) of the last of 48", full.stormAt(55), 7);
    }

    private static void stormAt() {
        ParrotLog log = Logs.stormy();
        Check.due("stormAt(5) of none", log.stormAt(5), -1);
        Check.due("stormAt(6) of one that is over", log.stormAt(6), 0);
        Check.due("stormAt(8) of the one that is on", log.stormAt(8), 1);
        log.endStorm();
        log.say(5, 6);
        Check.due("stormAt(10) behind it", log.stormAt(10), -1);
        Check.due("stormAt(8) behind it", log.stormAt(8), 1);
    }

    private static void latest() {
        ParrotLog log = Logs.mixed();
        int[] latest = {-1, 5, 6, 3, 7, -1, -1, -1, -1, -1};
        int[] values = {0, -5, 0, 4, 0, 0, 0, 0, 0, 0};
        int[] counts = {0, 1, 2, 1, 1, 0, 0, 0, 0, 0};
        for (int key = 0; key < 10; key++) {
            Check.due("latestOf(" + key + ")", log.latestOf(key), latest[key]);
            Check.due("valueOf(" + key + ")", log.valueOf(key), values[key]);
            Check.due("countOf(" + key + ")", log.countOf(key), counts[key]);
        }
    }

    private static void latestAtTheOffsetZero() {
        ParrotLog log = Logs.saying(3);
        Check.due("latestOf(0) of the first one", log.latestOf(0), 0);
        Check.due("valueOf(0) of the first one", log.valueOf(0), 1);
        Check.due("countOf(0) of the first one", log.countOf(0), 1);
    }

    private static void latestOfADroppedKey() {
        ParrotLog log = Logs.saying(48);
        log.say(4, 400);
        Check.due("latestOf(0) as the first of its five is dropped", log.latestOf(0), 40);
        Check.due("countOf(0) as the first of its five is dropped", log.countOf(0), 4);
        log.trimTo(41);
        Check.due("latestOf(0) as all are dropped", log.latestOf(0), -1);
        Check.due("valueOf(0) as all are dropped", log.valueOf(0), 0);
        Check.due("countOf(0) as all are dropped", log.countOf(0), 0);
    }

    private static void leastAndGreatestKey() {
        ParrotLog log = new ParrotLog();
        log.say(9, 999);
        log.say(9, -999);
        log.say(0, -999);
        log.say(0, 999);
        Check.due("latestOf(9)", log.latestOf(9), 1);
        Check.due("valueOf(9) of the least", log.valueOf(9), -999);
        Check.due("countOf(9)", log.countOf(9), 2);
        Check.due("latestOf(0)", log.latestOf(0), 3);
        Check.due("valueOf(0) of the greatest", log.valueOf(0), 999);
        Check.due("countOf(0)", log.countOf(0), 2);
    }

    private static void aFullLogOfOneKey() {
        ParrotLog log = new ParrotLog();
        for (int i = 0; i < 60; i++) {
            log.say(9, i);
        }
        Check.due("countOf(9) of 60", log.countOf(9), 48);
        Check.due("latestOf(9) of 60", log.latestOf(9), 59);
        Check.due("valueOf(9) of 60", log.valueOf(9), 59);
    }

    private static void fullLog() {
        ParrotLog log = Logs.saying(100);
        Check.due("100 said: phrases()", log.phrases(), 48);
        Check.due("100 said: nextOffset()", log.nextOffset(), 100);
        Check.due("100 said: firstOffset()", log.firstOffset(), 52);
        Check.due("100 said: dropped()", log.dropped(), 52);
        Check.due("100 said: isKept(51)", log.isKept(51), false);
        Check.due("100 said: isKept(52)", log.isKept(52), true);
        Check.due("100 said: isKept(99)", log.isKept(99), true);
        Check.due("100 said: isKept(100)", log.isKept(100), false);
        Check.due("100 said: valueAt(52)", log.valueAt(52), 53);
        Check.due("100 said: keyAt(99)", log.keyAt(99), 9);
        Check.due("100 said: countOf(1)", log.countOf(1), 4);
        Check.due("100 said: countOf(2)", log.countOf(2), 5);
        Check.due("100 said: latestOf(0)", log.latestOf(0), 90);
    }
}
