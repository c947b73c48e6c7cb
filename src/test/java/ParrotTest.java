/** Promises 1 to 10: a new log, and what changes it. */
public final class ParrotTest {
    private ParrotTest() {
    }

    public static void main(String[] args) {
        newObject();
        say();
        sayWrongly();
        sayInAFullLog();
        startStorm();
        endStorm();
        replay();
        replayInAFullLog();
        replayWrongly();
        compact();
        compactZeros();
        trimTo();
        addShip();
        addShipWrongly();
        seek();
        seekWrongly();
        passHours();
        passHoursWrongly();
        Check.end();
    }

    private static void newObject() {
        ParrotLog log = new ParrotLog();
        Check.due("new: hours()", log.hours(), 0);
        Check.due("new: phrases()", log.phrases(), 0);
        Check.due("new: nextOffset()", log.nextOffset(), 0);
        Check.due("new: dropped()", log.dropped(), 0);
        Check.due("new: ships()", log.ships(), 0);
        Check.due("new: storms()", log.storms(), 0);
        Check.due("new: isStormy()", log.isStormy(), false);
        log.say(1, 1);
        Check.due("another new one: phrases()", new ParrotLog().phrases(), 0);
    }

    private static void say() {
        ParrotLog log = new ParrotLog();
        Check.due("first say()", log.say(0, -999), 0);
        Check.due("second say()", log.say(9, 999), 1);
        Check.due("third say()", log.say(0, 0), 2);
        Check.due("keyAt(1)", log.keyAt(1), 9);
        Check.due("valueAt(0)", log.valueAt(0), -999);
        Check.due("valueAt(1)", log.valueAt(1), 999);
        log.trimTo(3);
        Check.due("say() in a trimmed log gives no offset twice", log.say(0, 0), 3);
    }

    private static void sayWrongly() {
        ParrotLog log = Logs.mixed();
        Class<IllegalArgumentException> due = IllegalArgumentException.class;
        Check.refused(log, "say(-1, 0)", due, () -> log.say(-1, 0));
        Check.refused(log, "say(10, 0)", due, () -> log.say(10, 0));
        Check.refused(log, "say(0, -1000)", due, () -> log.say(0, -1000));
        Check.refused(log, "say(0, 1000)", due, () -> log.say(0, 1000));
        Check.refused(log, "say(MIN, MIN)", due, () -> log.say(Integer.MIN_VALUE, Integer.MIN_VALUE));
        Check.refused(log, "say(MAX, MAX)", due, () -> log.say(Integer.MAX_VALUE, Integer.MAX_VALUE));
        Check.due("say() behind refused ones", log.say(0, 0), log.nextOffset() - 1);
    }

    private static void sayInAFullLog() {
        ParrotLog log = Logs.saying(48);
        log.addShip(1, 0);
        log.addShip(1, 1);
        Check.due("48 said: phrases()", log.phrases(), 48);
        Check.due("48 said: dropped()", log.dropped(), 0);
        Check.due("49th say()", log.say(5, 5), 48);
        Check.due("49 said: phrases()", log.phrases(), 48);
        Check.due("49 said: firstOffset()", log.firstOffset(), 1);
        Check.due("49 said: dropped()", log.dropped(), 1);
        Check.due("49 said: missed by the ship at 0", log.missedBy(0), 1);
        Check.due("49 said: missed by the ship at 1", log.missedBy(1), 0);
        Check.due("49 said: offsetOf(0)", log.offsetOf(0), 0);
        Check.due("50th say()", log.say(5, 5), 49);
        Check.due("50 said: missed by the ship at 0", log.missedBy(0), 2);
        Check.due("50 said: missed by the ship at 1", log.missedBy(1), 1);
    }

    private static void startStorm() {
        ParrotLog log = new ParrotLog();
        for (int storm = 0; storm < 8; storm++) {
            Check.due("startStorm()", log.startStorm(), storm);
            Check.due("isStormy() in a storm", log.isStormy(), true);
            Check.refused(log, "startStorm() in a storm", IllegalStateException.class, log::startStorm);
            log.endStorm();
        }
        Check.refused(log, "startStorm() behind 8", IllegalStateException.class, log::startStorm);
        Check.due("storms()", log.storms(), 8);
    }

    private static void endStorm() {
        ParrotLog log = new ParrotLog();
        Check.refused(log, "endStorm() without any", IllegalStateException.class, log::endStorm);
        log.say(1, 1);
        log.startStorm();
        log.say(1, 2);
        log.say(1, 3);
        log.compact();
        Check.due("endStorm() counts dropped ones too", log.endStorm(), 2);
        Check.due("isStormy() behind it", log.isStormy(), false);
        Check.refused(log, "endStorm() again", IllegalStateException.class, log::endStorm);
        log.startStorm();
        Check.due("endStorm() of a silent one", log.endStorm(), 0);
    }

    private static void replay() {
        ParrotLog log = new ParrotLog();
        log.startStorm();
        log.say(3, 30);
        log.say(4, 40);
        log.endStorm();
        log.say(5, 50);
        log.startStorm();
        log.say(6, 60);
        log.endStorm();
        Check.due("replay(0)", log.replay(0), 2);
        Check.due("nextOffset()", log.nextOffset(), 6);
        Check.due("phrases()", log.phrases(), 6);
        Check.due("keyAt(4)", log.keyAt(4), 3);
        Check.due("valueAt(4)", log.valueAt(4), 30);
        Check.due("keyAt(5)", log.keyAt(5), 4);
        Check.due("valueAt(5)", log.valueAt(5), 40);
        Check.due("stormAt(4)", log.stormAt(4), -1);
        Check.due("stormAt(0)", log.stormAt(0), 0);
        Check.due("saidIn(0)", log.saidIn(0), 2);
        Check.due("replay(0) says none twice", log.replay(0), 2);
        log.trimTo(1);
        Check.due("replay(0) of one that is kept in part", log.replay(0), 1);
        Check.due("valueAt(8)", log.valueAt(8), 40);
        log.trimTo(log.nextOffset());
        Check.due("replay(1) of one that is not kept", log.replay(1), 0);
    }

    private static void replayInAFullLog() {
        ParrotLog log = new ParrotLog();
        log.addShip(1, 0);
        log.startStorm();
        for (int i = 0; i < 48; i++) {
            log.say(i % 10, i);
        }
        log.endStorm();
        Check.due("replay(0) of 48", log.replay(0), 48);
        Check.due("nextOffset()", log.nextOffset(), 96);
        Check.due("dropped()", log.dropped(), 48);
        Check.due("missedBy(0)", log.missedBy(0), 48);
        Check.due("keptOf(0)", log.keptOf(0), 0);
        for (int i = 0; i < 48; i++) {
            Check.due("valueAt() of the replayed " + i, log.valueAt(48 + i), i);
            Check.due("keyAt() of the replayed " + i, log.keyAt(48 + i), i % 10);
        }
        Check.due("replay(0) of none", log.replay(0), 0);
    }

    private static void replayWrongly() {
        ParrotLog log = new ParrotLog();
        Class<IndexOutOfBoundsException> index = IndexOutOfBoundsException.class;
        Check.refused(log, "replay(0) without storms", index, () -> log.replay(0));
        log.startStorm();
        log.say(1, 1);
        Check.refused(log, "replay(1) in storm 0", index, () -> log.replay(1));
        Check.refused(log, "replay(-1) in storm 0", index, () -> log.replay(-1));
        Check.refused(log, "replay(0) in storm 0", IllegalStateException.class, () -> log.replay(0));
        log.endStorm();
        Check.refused(log, "replay(1)", index, () -> log.replay(1));
        Check.refused(log, "replay(MIN)", index, () -> log.replay(Integer.MIN_VALUE));
        Check.refused(log, "replay(MAX)", index, () -> log.replay(Integer.MAX_VALUE));
    }

    private static void compact() {
        ParrotLog log = new ParrotLog();
        log.say(1, 10);
        log.say(2, 20);
        log.say(1, 11);
        log.say(3, 30);
        log.say(1, 12);
        log.addShip(1, 1);
        Check.due("compact()", log.compact(), 2);
        Check.due("isKept(0)", log.isKept(0), false);
        Check.due("isKept(1)", log.isKept(1), true);
        Check.due("isKept(2)", log.isKept(2), false);
        Check.due("isKept(3)", log.isKept(3), true);
        Check.due("isKept(4)", log.isKept(4), true);
        Check.due("keyAt(3)", log.keyAt(3), 3);
        Check.due("valueAt(4)", log.valueAt(4), 12);
        Check.due("dropped()", log.dropped(), 2);
        Check.due("missed of those that compacting dropped", log.missedBy(0), 1);
        Check.due("compact() again", log.compact(), 0);
        Check.due("compact() of an empty log", new ParrotLog().compact(), 0);
    }

    private static void compactZeros() {
        ParrotLog log = new ParrotLog();
        log.say(1, 5);
        log.say(1, 0);
        log.say(2, 0);
        log.say(3, 0);
        log.say(4, 7);
        log.addShip(1, 2);
        log.addShip(1, 3);
        Check.due("compact() with ships at 2 and 3", log.compact(), 2);
        Check.due("the zero ahead of both is gone, and the 5 is not back", log.latestOf(1), -1);
        Check.due("the zero at a ship's offset stays", log.isKept(2), true);
        log.seek(0, 4);
        Check.due("compact() with ships at 4 and 3", log.compact(), 1);
        Check.due("the zero at the other ship's offset stays", log.isKept(3), true);
        log.seek(0, 3);
        log.seek(1, 4);
        Check.due("compact() with ships at 3 and 4", log.compact(), 0);
        ParrotLog lonely = new ParrotLog();
        lonely.say(1, 0);
        lonely.say(2, 1);
        lonely.say(3, 0);
        Check.due("compact() without ships", lonely.compact(), 2);
        Check.due("only what is not 0 is kept", lonely.firstOffset(), 1);
    }

    private static void trimTo() {
        ParrotLog log = Logs.saying(6);
        log.addShip(1, 2);
        Check.due("trimTo(0)", log.trimTo(0), 0);
        Check.due("trimTo(4)", log.trimTo(4), 4);
        Check.due("firstOffset()", log.firstOffset(), 4);
        Check.due("phrases()", log.phrases(), 2);
        Check.due("dropped()", log.dropped(), 4);
        Check.due("missedBy(0)", log.missedBy(0), 2);
        Check.due("trimTo(3) again", log.trimTo(3), 0);
        Check.refused(log, "trimTo(-1)", IllegalArgumentException.class, () -> log.trimTo(-1));
        Check.refused(log, "trimTo(7)", IllegalArgumentException.class, () -> log.trimTo(7));
        Check.refused(log, "trimTo(MAX)", IllegalArgumentException.class, () -> log.trimTo(Integer.MAX_VALUE));
        Check.due("trimTo(6)", log.trimTo(6), 2);
        Check.due("trimTo(48) of a full log", Logs.saying(48).trimTo(48), 48);
        Check.due("phrases() behind it", log.phrases(), 0);
    }

    private static void addShip() {
        ParrotLog log = Logs.saying(3);
        log.trimTo(2);
        Check.due("addShip(1, 0)", log.addShip(1, 0), 0);
        Check.due("addShip(5, 3)", log.addShip(5, 3), 1);
        Check.due("offsetOf(0)", log.offsetOf(0), 0);
        Check.due("offsetOf(1)", log.offsetOf(1), 3);
        Check.due("missedBy(0) of what was dropped before", log.missedBy(0), 0);
        Check.due("heardBy(0)", log.heardBy(0), 0);
        Check.due("knownBy(0, 1)", log.knownBy(0, 1), 0);
        for (int ship = 2; ship < 6; ship++) {
            Check.due("addShip(2, 1)", log.addShip(2, 1), ship);
        }
        Check.due("ships()", log.ships(), 6);
        Check.due("passHours(1) with six", log.passHours(1), 5);
    }

    private static void addShipWrongly() {
        ParrotLog log = Logs.saying(3);
        Class<IllegalArgumentException> argument = IllegalArgumentException.class;
        Check.refused(log, "addShip(0, 0)", argument, () -> log.addShip(0, 0));
        Check.refused(log, "addShip(6, 0)", argument, () -> log.addShip(6, 0));
        Check.refused(log, "addShip(1, -1)", argument, () -> log.addShip(1, -1));
        Check.refused(log, "addShip(1, 4)", argument, () -> log.addShip(1, 4));
        for (int i = 0; i < 6; i++) {
            log.addShip(1, 0);
        }
        Check.refused(log, "7th addShip(1, 0)", IllegalStateException.class, () -> log.addShip(1, 0));
        Check.refused(log, "7th addShip(0, 0)", argument, () -> log.addShip(0, 0));
        Check.refused(log, "7th addShip(1, 4)", argument, () -> log.addShip(1, 4));
    }

    private static void seek() {
        ParrotLog log = Logs.saying(5);
        log.addShip(2, 0);
        log.addShip(1, 1);
        log.passHours(1);
        log.trimTo(3);
        Check.due("seek(0, 5)", log.seek(0, 5), 2);
        Check.due("offsetOf(0)", log.offsetOf(0), 5);
        Check.due("offsetOf(1)", log.offsetOf(1), 2);
        Check.due("seek(0, 0)", log.seek(0, 0), 5);
        Check.due("heardBy(0) stays", log.heardBy(0), 2);
        Check.due("missedBy(0) stays", log.missedBy(0), 1);
        Check.due("knownBy(0, 1) stays", log.knownBy(0, 1), 2);
        log.passHours(1);
        Check.due("heardBy(0) from there", log.heardBy(0), 4);
    }

    private static void seekWrongly() {
        ParrotLog log = Logs.mixed();
        int ships = log.ships();
        int over = log.nextOffset() + 1;
        Class<IndexOutOfBoundsException> index = IndexOutOfBoundsException.class;
        Check.refused(log, "seek(-1, 0)", index, () -> log.seek(-1, 0));
        Check.refused(log, "seek(ships(), 0)", index, () -> log.seek(ships, 0));
        Check.refused(log, "seek(ships(), -1)", index, () -> log.seek(ships, -1));
        Check.refused(log, "seek(0, -1)", IllegalArgumentException.class, () -> log.seek(0, -1));
        Check.refused(log, "seek(0, nextOffset() + 1)", IllegalArgumentException.class, () -> log.seek(0, over));
    }

    private static void passHours() {
        ParrotLog log = Logs.saying(10);
        log.addShip(2, 0);
        log.addShip(5, 4);
        Check.due("passHours(1)", log.passHours(1), 7);
        Check.due("offsetOf(0)", log.offsetOf(0), 2);
        Check.due("offsetOf(1)", log.offsetOf(1), 9);
        Check.due("heardBy(1)", log.heardBy(1), 5);
        Check.due("passHours(2) with fewer than the pace", log.passHours(2), 5);
        Check.due("offsetOf(0) behind it", log.offsetOf(0), 6);
        Check.due("offsetOf(1) behind it", log.offsetOf(1), 10);
        log.trimTo(8);
        Check.due("passHours(1) over a gap", log.passHours(1), 2);
        Check.due("offsetOf(0) behind the gap", log.offsetOf(0), 10);
        Check.due("knownBy(0, 9)", log.knownBy(0, 9), 10);
        Check.due("knownBy(0, 7) of the gap", log.knownBy(0, 7), 0);
        Check.due("hours()", log.hours(), 4);
        log.say(1, 77);
        log.startStorm();
        Check.due("passHours(60) in a storm", log.passHours(60), 0);
        Check.due("hours() in it", log.hours(), 64);
        Check.due("offsetOf(0) in it", log.offsetOf(0), 10);
        log.endStorm();
        Check.due("passHours(60) behind it", log.passHours(60), 2);
        log.trimTo(11);
        log.say(1, 88);
        Check.due("passHours(1) behind a drop of all", log.passHours(1), 2);
    }

    private static void passHoursWrongly() {
        ParrotLog log = Logs.mixed();
        Class<IllegalArgumentException> due = IllegalArgumentException.class;
        Check.refused(log, "passHours(0)", due, () -> log.passHours(0));
        Check.refused(log, "passHours(61)", due, () -> log.passHours(61));
        Check.refused(log, "passHours(MIN)", due, () -> log.passHours(Integer.MIN_VALUE));
        Check.refused(log, "passHours(MAX)", due, () -> log.passHours(Integer.MAX_VALUE));
    }
}
