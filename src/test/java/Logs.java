/** Logs that tests begin with. */
final class Logs {
    private Logs() {
    }

    /** Says so many phrases: the one with the offset i has the key i % 10 and the value i + 1. */
    static ParrotLog saying(int count) {
        ParrotLog log = new ParrotLog();
        for (int i = 0; i < count; i++) {
            log.say(i % 10, i + 1);
        }
        return log;
    }

    /**
     * Behind one hour and 3 drops, it keeps by offset 2:(2, 3), 3:(3, 4), 5:(1, -5), 6:(2, 0), 7:(4, 0) as key and
     * value; the last two are of storm 0, which is over. Ship 0 (pace 2) is at 2, heard 2, missed 1 and knows
     * 1 of key 0 and 2 of key 1; ship 1 (pace 1) is at 7 and ship 2 (pace 5) at the end, 8.
     */
    static ParrotLog mixed() {
        ParrotLog log = saying(4);
        log.addShip(2, 0);
        log.passHours(1);
        log.trimTo(1);
        log.say(1, 9);
        log.say(1, -5);
        log.compact();
        log.startStorm();
        log.say(2, 0);
        log.say(4, 0);
        log.endStorm();
        log.addShip(1, 7);
        log.addShip(5, 8);
        return log;
    }

    /** The mixed one in storm 1, in which 8:(5, 5) and 9:(1, 0) are said. */
    static ParrotLog stormy() {
        ParrotLog log = mixed();
        log.startStorm();
        log.say(5, 5);
        log.say(1, 0);
        return log;
    }

    /**
     * It keeps 48 phrases, 8 to 55, of 8 storms with 7 each; the last storm is on. The one with the offset i has the
     * key i % 10 and the value i - 28. Of its 6 ships the first one was there from the beginning.
     */
    static ParrotLog fullInAStorm() {
        ParrotLog log = new ParrotLog();
        log.addShip(1, 0);
        for (int storm = 0; storm < 8; storm++) {
            log.startStorm();
            for (int i = storm * 7; i < storm * 7 + 7; i++) {
                log.say(i % 10, i - 28);
            }
            if (storm < 7) {
                log.endStorm();
            }
        }
        int[] offsets = {8, 20, 40, 55, 56};
        for (int i = 0; i < offsets.length; i++) {
            log.addShip(i + 1, offsets[i]);
        }
        return log;
    }

    /** The same as all storms are over and an hour went by. */
    static ParrotLog full() {
        ParrotLog log = fullInAStorm();
        log.endStorm();
        log.passHours(1);
        return log;
    }
}
