/** Promises 11 to 22: what is asked of the log. */
public final class LogTest {
    private static final Class<IndexOutOfBoundsException> INDEX = IndexOutOfBoundsException.class;

    private LogTest() {
    }

    public static void main(String[] args) {
        emptyLog();
        hours();
        counts();
        isKept();
        partsOfPhrases();
        stormAt();
        latest();
        wrongKeys();
        fullLog();
        Check.end();
    }

    private static void emptyLog() {
        ParrotLog log = new ParrotLog();
        Check.asked(log, "empty: hours()", log::hours, 0);
        Check.asked(log, "empty: phrases()", log::phrases, 0);
        Check.asked(log, "empty: nextOffset()", log::nextOffset, 0);
        Check.asked(log, "empty: firstOffset()", log::firstOffset, -1);
        Check.asked(log, "empty: dropped()", log::dropped, 0);
        Check.due("empty: isKept(0)", log.isKept(0), false);
        Check.due("empty: isKept(-1)", log.isKept(-1), false);
        Check.refused(log, "empty: keyAt(0)", INDEX, () -> log.keyAt(0));
        for (int key = 0; key < 10; key++) {
            Check.due("empty: latestOf()", log.latestOf(key), -1);
            Check.due("empty: valueOf()", log.valueOf(key), 0);
            Check.due("empty: countOf()", log.countOf(key), 0);
        }
    }

    private static void hours() {
        ParrotLog log = new ParrotLog();
        log.passHours(60);
        log.startStorm();
        log.passHours(5);
        Check.due("hours() of two goings", log.hours(), 65);
    }

    private static void counts() {
        ParrotLog log = Logs.mixed();
        Check.asked(log, "hours()", log::hours, 1);
        Check.asked(log, "phrases()", log::phrases, 5);
        Check.asked(log, "nextOffset()", log::nextOffset, 8);
        Check.asked(log, "firstOffset()", log::firstOffset, 2);
        Check.asked(log, "dropped()", log::dropped, 3);
        log.trimTo(8);
        Check.due("firstOffset() of a trimmed log", log.firstOffset(), -1);
        Check.due("nextOffset() of a trimmed log", log.nextOffset(), 8);
        Check.due("dropped() of a trimmed log", log.dropped(), 8);
    }

    private static void isKept() {
        ParrotLog log = Logs.mixed();
        boolean[] kept = {false, false, true, true, false, true, true, true, false};
        for (int offset = 0; offset < kept.length; offset++) {
            Check.due("isKept(" + offset + ")", log.isKept(offset), kept[offset]);
        }
        Check.due("isKept(-1)", log.isKept(-1), false);
        Check.due("isKept(MIN)", log.isKept(Integer.MIN_VALUE), false);
        Check.due("isKept(MAX)", log.isKept(Integer.MAX_VALUE), false);
    }

    private static void partsOfPhrases() {
        ParrotLog log = Logs.mixed();
        int[] offsets = {2, 3, 5, 6, 7};
        int[] keys = {2, 3, 1, 2, 4};
        int[] values = {3, 4, -5, 0, 0};
        for (int i = 0; i < offsets.length; i++) {
            int offset = offsets[i];
            Check.asked(log, "keyAt(" + offset + ")", () -> log.keyAt(offset), keys[i]);
            Check.asked(log, "valueAt(" + offset + ")", () -> log.valueAt(offset), values[i]);
        }
        int[] notKept = {Integer.MIN_VALUE, -1, 0, 1, 4, 8, Integer.MAX_VALUE};
        for (int offset : notKept) {
            Check.refused(log, "keyAt(" + offset + ")", INDEX, () -> log.keyAt(offset));
            Check.refused(log, "valueAt(" + offset + ")", INDEX, () -> log.valueAt(offset));
            Check.refused(log, "stormAt(" + offset + ")", INDEX, () -> log.stormAt(offset));
        }
    }

    private static void stormAt() {
        ParrotLog log = Logs.mixed();
        log.startStorm();
        log.say(5, 5);
        Check.due("stormAt(5) of none", log.stormAt(5), -1);
        Check.due("stormAt(6) of one that is over", log.stormAt(6), 0);
        Check.due("stormAt(8) of the one that is on", log.stormAt(8), 1);
        log.endStorm();
        log.say(5, 6);
        Check.due("stormAt(9) behind it", log.stormAt(9), -1);
        Check.due("stormAt(8) behind it", log.stormAt(8), 1);
    }

    private static void latest() {
        ParrotLog log = Logs.mixed();
        int[] latest = {-1, 5, 6, 3, 7, -1, -1, -1, -1, -1};
        int[] values = {0, -5, 0, 4, 0, 0, 0, 0, 0, 0};
        int[] counts = {0, 1, 2, 1, 1, 0, 0, 0, 0, 0};
        for (int i = 0; i < 10; i++) {
            int key = i;
            Check.asked(log, "latestOf(" + key + ")", () -> log.latestOf(key), latest[key]);
            Check.asked(log, "valueOf(" + key + ")", () -> log.valueOf(key), values[key]);
            Check.asked(log, "countOf(" + key + ")", () -> log.countOf(key), counts[key]);
        }
        Check.due("latestOf(0) of the first one kept", Logs.saying(3).latestOf(0), 0);
        Check.due("valueOf(0) of the first one kept", Logs.saying(3).valueOf(0), 1);
        log.say(9, 8);
        log.say(9, 7);
        Check.due("latestOf(9) said twice", log.latestOf(9), 9);
        Check.due("valueOf(9) said twice", log.valueOf(9), 7);
        Check.due("countOf(9) said twice", log.countOf(9), 2);
    }

    private static void wrongKeys() {
        ParrotLog log = Logs.mixed();
        int[] wrong = {Integer.MIN_VALUE, -1, 10, Integer.MAX_VALUE};
        Check.refusedNumbers(log, "latestOf", log::latestOf, wrong);
        Check.refusedNumbers(log, "valueOf", log::valueOf, wrong);
        Check.refusedNumbers(log, "countOf", log::countOf, wrong);
    }

    private static void fullLog() {
        ParrotLog log = Logs.saying(100);
        Check.due("100 said: phrases()", log.phrases(), 48);
        Check.due("100 said: nextOffset()", log.nextOffset(), 100);
        Check.due("100 said: firstOffset()", log.firstOffset(), 52);
        Check.due("100 said: dropped()", log.dropped(), 52);
        Check.due("100 said: isKept(51)", log.isKept(51), false);
        Check.due("100 said: isKept(52)", log.isKept(52), true);
        Check.due("100 said: valueAt(52)", log.valueAt(52), 53);
        Check.due("100 said: keyAt(99)", log.keyAt(99), 9);
        Check.due("100 said: countOf(1)", log.countOf(1), 4);
        Check.due("100 said: countOf(2)", log.countOf(2), 5);
        Check.due("100 said: latestOf(0)", log.latestOf(0), 90);
    }
}
