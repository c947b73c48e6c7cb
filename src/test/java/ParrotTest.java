/** Promises 1 to 10: a new object and the acts. What they refuse stands in RefusalTest. */
public final class ParrotTest {
    private ParrotTest() {
    }

    public static void main(String[] args) {
        newObject();
        newObjectsAreOfTheirOwn();
        say();
        sayTheLeastAndTheGreatest();
        startStorm();
        startTheEighthStorm();
        endStorm();
        endStormOfDroppedPhrases();
        endASilentStorm();
        replay();
        replayWhatIsKept();
        replayNone();
        replayTheLastOfEightStorms();
        replayInAFullLog();
        replayAsTheLogBecomesFull();
        compact();
        compactNothing();
        trimTo();
        trimToTheEnds();
        trimToAGap();
        trimAnEmptyLog();
        addShip();
        addTheSlowestAndTheFastest();
        addShipsAtTheEnds();
        addTheSixthShip();
        seek();
        seekTheEnds();
        seekInAnEmptyLog();
        passHours();
        passOneHourAndSixty();
        passHoursWithoutShips();
        Check.end();
    }

    private static void newObject() {
        ParrotLog log = new ParrotLog();
        Check.due("new: hours()", log.hours(), 0);
        Check.due("new: phrases()", log.phrases(), 0);
        Check.due("new: nextOffset()", log.nextOffset(), 0);
        Check.due("new: dropped()", log.dropped(), 0);
        Check.due("new: ships()", log.ships(), 0);
        Check.due("new: storms()", log.storms(), 0);
        Check.due("new: isStormy()", log.isStormy(), false);
    }

    private static void newObjectsAreOfTheirOwn() {
        ParrotLog used = Logs.full();
        Check.due("used: phrases()", used.phrases(), 48);
        newObject();
        ParrotLog log = new ParrotLog();
        log.say(0, 5);
        log.addShip(1, 0);
        Check.due("of two: phrases()", log.phrases(), 1);
        Check.due("of two: knownBy(0, 0)", log.knownBy(0, 0), 0);
        Check.due("of two: nextOffset() of the other", used.nextOffset(), 56);
    }

    private static void say() {
        ParrotLog log = new ParrotLog();
        Check.due("first say()", log.say(0, 4), 0);
        Check.due("second say()", log.say(5, 5), 1);
        Check.due("third say()", log.say(0, 0), 2);
        Check.due("keyAt(1)", log.keyAt(1), 5);
        Check.due("valueAt(0)", log.valueAt(0), 4);
    }

    private static void sayTheLeastAndTheGreatest() {
        ParrotLog log = new ParrotLog();
        log.addShip(4, 0);
        log.say(0, -999);
        log.say(9, 999);
        log.say(9, -999);
        log.say(0, 999);
        int[] keys = {0, 9, 9, 0};
        int[] values = {-999, 999, -999, 999};
        for (int offset = 0; offset < 4; offset++) {
            Check.due("keyAt() of least and greatest", log.keyAt(offset), keys[offset]);
            Check.due("valueAt() of least and greatest", log.valueAt(offset), values[offset]);
        }
        log.passHours(1);
        Check.due("knownBy(0, 0) of the greatest", log.knownBy(0, 0), 999);
        Check.due("knownBy(0, 9) of the least", log.knownBy(0, 9), -999);
    }

    private static void startStorm() {
        ParrotLog log = new ParrotLog();
        Check.due("first startStorm()", log.startStorm(), 0);
        Check.due("isStormy() in it", log.isStormy(), true);
        log.endStorm();
        Check.due("second startStorm()", log.startStorm(), 1);
    }

    private static void startTheEighthStorm() {
        ParrotLog log = new ParrotLog();
        for (int storm = 0; storm < 7; storm++) {
            log.startStorm();
            log.endStorm();
        }
        Check.due("8th startStorm()", log.startStorm(), 7);
        Check.due("isStormy() in the 8th", log.isStormy(), true);
        Check.due("storms() in the 8th", log.storms(), 8);
        log.say(1, 1);
        Check.due("stormAt(0) in the 8th", log.stormAt(0), 7);
        Check.due("endStorm() of the 8th", log.endStorm(), 1);
    }

    private static void endStorm() {
        ParrotLog log = new ParrotLog();
        log.say(1, 1);
        log.startStorm();
        log.say(1, 2);
        log.say(1, 3);
        Check.due("endStorm()", log.endStorm(), 2);
        Check.due("isStormy() behind it", log.isStormy(), false);
        log.say(1, 4);
        log.startStorm();
        log.say(1, 5);
        Check.due("endStorm() counts those of its own", log.endStorm(), 1);
    }

    private static void endStormOfDroppedPhrases() {
        ParrotLog log = new ParrotLog();
        log.startStorm();
        for (int i = 0; i < 50; i++) {
            log.say(1, i);
        }
        log.compact();
        log.trimTo(50);
        Check.due("endStorm() counts dropped ones too", log.endStorm(), 50);
    }

    private static void endASilentStorm() {
        ParrotLog log = Logs.saying(3);
        log.startStorm();
        Check.due("endStorm() of a silent one", log.endStorm(), 0);
    }

    private static void replay() {
        ParrotLog log = new ParrotLog();
        log.startStorm();
        log.say(3, 30);
        log.say(4, 40);
        log.endStorm();
        log.say(5, 50);
        log.startStorm();
        log.say(6, 60);
        log.endStorm();
        Check.due("replay(0)", log.replay(0), 2);
        Check.due("nextOffset()", log.nextOffset(), 6);
        Check.due("phrases()", log.phrases(), 6);
        Check.due("keyAt(4)", log.keyAt(4), 3);
        Check.due("valueAt(4)", log.valueAt(4), 30);
        Check.due("keyAt(5)", log.keyAt(5), 4);
        Check.due("valueAt(5)", log.valueAt(5), 40);
        Check.due("stormAt(4) of a replayed one", log.stormAt(4), -1);
        Check.due("stormAt(0) of the one that was replayed", log.stormAt(0), 0);
        Check.due("replay(0) says none twice", log.replay(0), 2);
        Check.due("isStormy() behind it", log.isStormy(), false);
    }

    /** "Says all phrases of a storm again that are kept as this begins." */
    private static void replayWhatIsKept() {
        ParrotLog log = new ParrotLog();
        log.startStorm();
        log.say(3, 30);
        log.say(3, 31);
        log.say(4, 40);
        log.endStorm();
        log.say(4, 41);
        log.compact();
        Check.due("replay(0) of one that is kept in part", log.replay(0), 1);
        Check.due("nextOffset() behind it", log.nextOffset(), 5);
        Check.due("keyAt(4) of it", log.keyAt(4), 3);
        Check.due("valueAt(4) of it", log.valueAt(4), 31);
    }

    private static void replayNone() {
        ParrotLog log = Logs.saying(2);
        log.startStorm();
        log.endStorm();
        log.startStorm();
        log.say(1, 1);
        log.endStorm();
        Check.due("replay(0) of a silent one", log.replay(0), 0);
        Check.due("nextOffset() behind it", log.nextOffset(), 3);
        log.trimTo(3);
        Check.due("replay(1) of one that is not kept", log.replay(1), 0);
        Check.due("nextOffset() behind that", log.nextOffset(), 3);
    }

    private static void replayTheLastOfEightStorms() {
        ParrotLog log = Logs.full();
        Check.due("replay(7)", log.replay(7), 7);
        Check.due("nextOffset() behind it", log.nextOffset(), 63);
        for (int i = 0; i < 7; i++) {
            Check.due("keyAt() of what storm 7 said", log.keyAt(56 + i), (49 + i) % 10);
            Check.due("valueAt() of what storm 7 said", log.valueAt(56 + i), 21 + i);
        }
        Check.due("replay(0) of one that is dropped", log.replay(0), 0);
    }

    /** Each phrase is the first one as it is said again, and so is dropped by that. */
    private static void replayInAFullLog() {
        ParrotLog log = new ParrotLog();
        log.addShip(1, 0);
        log.startStorm();
        for (int i = 0; i < 48; i++) {
            log.say(i % 10, i);
        }
        log.endStorm();
        Check.due("replay(0) of 48", log.replay(0), 48);
        Check.due("nextOffset()", log.nextOffset(), 96);
        Check.due("dropped()", log.dropped(), 48);
        Check.due("missedBy(0)", log.missedBy(0), 48);
        Check.due("keptOf(0)", log.keptOf(0), 0);
        for (int i = 0; i < 48; i++) {
            Check.due("valueAt() of the replayed " + i, log.valueAt(48 + i), i);
            Check.due("keyAt() of the replayed " + i, log.keyAt(48 + i), i % 10);
        }
        Check.due("replay(0) of none", log.replay(0), 0);
    }

    private static void replayAsTheLogBecomesFull() {
        ParrotLog log = Logs.saying(43);
        log.startStorm();
        log.say(7, 70);
        log.say(8, 80);
        log.say(9, 90);
        log.endStorm();
        Check.due("replay(0) with 46 kept", log.replay(0), 3);
        Check.due("phrases() behind it", log.phrases(), 48);
        Check.due("firstOffset() behind it", log.firstOffset(), 1);
        Check.due("dropped() behind it", log.dropped(), 1);
    }

    private static void compact() {
        ParrotLog log = new ParrotLog();
        log.say(1, 10);
        log.say(2, 20);
        log.say(1, 11);
        log.say(3, 30);
        log.say(1, 12);
        Check.due("compact()", log.compact(), 2);
        boolean[] kept = {false, true, false, true, true};
        for (int offset = 0; offset < kept.length; offset++) {
            Check.due("isKept(" + offset + ") compacted", log.isKept(offset), kept[offset]);
        }
        Check.due("keyAt(3) compacted", log.keyAt(3), 3);
        Check.due("valueAt(4) compacted", log.valueAt(4), 12);
        Check.due("phrases() compacted", log.phrases(), 3);
    }

    private static void compactNothing() {
        ParrotLog log = new ParrotLog();
        Check.due("compact() of an empty log", log.compact(), 0);
        log.say(1, 1);
        log.say(1, 2);
        Check.due("compact()", log.compact(), 1);
        Check.due("compact() again", log.compact(), 0);
        Check.due("dropped() behind both", log.dropped(), 1);
    }

    private static void trimTo() {
        ParrotLog log = Logs.saying(6);
        Check.due("trimTo(4)", log.trimTo(4), 4);
        Check.due("firstOffset()", log.firstOffset(), 4);
        Check.due("phrases()", log.phrases(), 2);
        Check.due("valueAt(4)", log.valueAt(4), 5);
        Check.due("nextOffset()", log.nextOffset(), 6);
        Check.due("trimTo(4) again", log.trimTo(4), 0);
        Check.due("trimTo(3) behind it", log.trimTo(3), 0);
        Check.due("trimTo(5)", log.trimTo(5), 1);
    }

    /** "If offset is not 0 to nextOffset()": both are taken. */
    private static void trimToTheEnds() {
        ParrotLog log = Logs.saying(6);
        Check.due("trimTo(0)", log.trimTo(0), 0);
        Check.due("phrases() behind trimTo(0)", log.phrases(), 6);
        Check.due("trimTo(6) of 6", log.trimTo(6), 6);
        Check.due("phrases() behind trimTo(6)", log.phrases(), 0);
        Check.due("trimTo(6) of none", log.trimTo(6), 0);
        Check.due("trimTo(48) of a full log", Logs.saying(48).trimTo(48), 48);
    }

    private static void trimToAGap() {
        ParrotLog log = new ParrotLog();
        log.say(1, 1);
        log.say(2, 2);
        log.say(2, 3);
        log.say(2, 4);
        log.compact();
        Check.due("trimTo(2) that is not kept", log.trimTo(2), 1);
        Check.due("firstOffset() behind it", log.firstOffset(), 3);
    }

    private static void trimAnEmptyLog() {
        ParrotLog log = new ParrotLog();
        Check.due("trimTo(0) of an empty log", log.trimTo(0), 0);
        Check.due("dropped() behind it", log.dropped(), 0);
    }

    private static void addShip() {
        ParrotLog log = Logs.saying(3);
        log.trimTo(2);
        Check.due("addShip(2, 1)", log.addShip(2, 1), 0);
        Check.due("addShip(3, 2)", log.addShip(3, 2), 1);
        Check.due("offsetOf(0)", log.offsetOf(0), 1);
        Check.due("offsetOf(1)", log.offsetOf(1), 2);
        Check.due("missedBy(0) of what was dropped before", log.missedBy(0), 0);
        Check.due("heardBy(0)", log.heardBy(0), 0);
        for (int key = 0; key < 10; key++) {
            Check.due("knownBy() of a new ship", log.knownBy(0, key), 0);
        }
    }

    private static void addTheSlowestAndTheFastest() {
        ParrotLog log = Logs.saying(12);
        log.addShip(1, 0);
        log.addShip(5, 0);
        log.passHours(1);
        Check.due("heardBy(0) with the pace 1", log.heardBy(0), 1);
        Check.due("heardBy(1) with the pace 5", log.heardBy(1), 5);
    }

    /** "Offset is not 0 to nextOffset()": both are taken, also of an empty log, where they are the same. */
    private static void addShipsAtTheEnds() {
        ParrotLog empty = new ParrotLog();
        Check.due("addShip(1, 0) of an empty log", empty.addShip(1, 0), 0);
        ParrotLog log = Logs.saying(3);
        log.trimTo(2);
        Check.due("addShip(1, 0) ahead of what is kept", log.addShip(1, 0), 0);
        Check.due("addShip(1, 3) at the end", log.addShip(1, 3), 1);
        Check.due("offsetOf(0) at 0", log.offsetOf(0), 0);
        Check.due("offsetOf(1) at the end", log.offsetOf(1), 3);
    }

    private static void addTheSixthShip() {
        ParrotLog log = Logs.saying(10);
        for (int ship = 0; ship < 5; ship++) {
            log.addShip(1, 0);
        }
        Check.due("6th addShip()", log.addShip(2, 1), 5);
        Check.due("ships()", log.ships(), 6);
        Check.due("passHours(1) with six", log.passHours(1), 7);
        Check.due("offsetOf(5)", log.offsetOf(5), 3);
        Check.due("knownBy(5, 2)", log.knownBy(5, 2), 3);
    }

    private static void seek() {
        ParrotLog log = Logs.saying(5);
        log.addShip(2, 0);
        log.addShip(1, 1);
        log.passHours(1);
        log.trimTo(3);
        Check.due("seek(0, 4)", log.seek(0, 4), 2);
        Check.due("offsetOf(0)", log.offsetOf(0), 4);
        Check.due("offsetOf(1) of the other", log.offsetOf(1), 2);
        Check.due("seek(0, 3)", log.seek(0, 3), 4);
        Check.due("seek(0, 3) again", log.seek(0, 3), 3);
        Check.due("heardBy(0) stays", log.heardBy(0), 2);
        Check.due("missedBy(0) stays", log.missedBy(0), 1);
        Check.due("knownBy(0, 1) stays", log.knownBy(0, 1), 2);
        Check.due("passHours(1) from there", log.passHours(1), 3);
        Check.due("heardBy(0) from there", log.heardBy(0), 4);
    }

    /** "If offset is not 0 to nextOffset()": both are taken. */
    private static void seekTheEnds() {
        ParrotLog log = Logs.saying(5);
        log.addShip(5, 2);
        Check.due("seek(0, 5)", log.seek(0, 5), 2);
        Check.due("offsetOf(0) at the end", log.offsetOf(0), 5);
        Check.due("passHours(1) from the end", log.passHours(1), 0);
        Check.due("seek(0, 0)", log.seek(0, 0), 5);
        Check.due("offsetOf(0) at 0", log.offsetOf(0), 0);
        Check.due("passHours(1) from 0", log.passHours(1), 5);
        Check.due("seek(5, 0) of the last of six", Logs.full().seek(5, 0), 56);
    }

    private static void seekInAnEmptyLog() {
        ParrotLog log = new ParrotLog();
        log.addShip(1, 0);
        Check.due("seek(0, 0) of an empty log", log.seek(0, 0), 0);
    }

    private static void passHours() {
        ParrotLog log = Logs.saying(10);
        log.addShip(2, 0);
        log.addShip(5, 4);
        Check.due("passHours(1)", log.passHours(1), 7);
        Check.due("offsetOf(0)", log.offsetOf(0), 2);
        Check.due("offsetOf(1)", log.offsetOf(1), 9);
        Check.due("heardBy(1)", log.heardBy(1), 5);
        Check.due("passHours(2)", log.passHours(2), 5);
        Check.due("offsetOf(0) behind it", log.offsetOf(0), 6);
        Check.due("offsetOf(1) behind it", log.offsetOf(1), 10);
    }

    /** "If hours is not 1 to 60": both are taken. */
    private static void passOneHourAndSixty() {
        ParrotLog log = Logs.saying(48);
        log.addShip(1, 0);
        Check.due("passHours(1) of 48", log.passHours(1), 1);
        Check.due("hours() behind 1", log.hours(), 1);
        Check.due("passHours(60) of 47", log.passHours(60), 47);
        Check.due("hours() behind 61", log.hours(), 61);
    }

    private static void passHoursWithoutShips() {
        ParrotLog log = Logs.saying(4);
        Check.due("passHours(3) without ships", log.passHours(3), 0);
        Check.due("hours() without ships", log.hours(), 3);
        ParrotLog empty = new ParrotLog();
        empty.addShip(5, 0);
        Check.due("passHours(3) of an empty log", empty.passHours(3), 0);
        Check.due("offsetOf(0) of an empty log", empty.offsetOf(0), 0);
    }
}
