/** Logs that tests begin with. */
final class Logs {
    private Logs() {
    }

    /** Says so many phrases: the one with the offset i has the key i % 10 and the value i + 1. */
    static ParrotLog saying(int count) {
        ParrotLog log = new ParrotLog();
        for (int i = 0; i < count; i++) {
            log.say(i % 10, i + 1);
        }
        return log;
    }

    /**
     * Behind one hour and 3 drops, it keeps by offset 2:(2, 3), 3:(3, 4), 5:(1, -5), 6:(2, 0), 7:(4, 0) as key and
     * value; the last two are of storm 0, which is over. Ship 0 (pace 2) is at 2, heard 2, missed 1 and knows
     * 1 of key 0 and 2 of key 1; ship 1 (pace 1) is at 7 and ship 2 (pace 5) at the end, 8.
     */
    static ParrotLog mixed() {
        ParrotLog log = saying(4);
        log.addShip(2, 0);
        log.passHours(1);
        log.trimTo(1);
        log.say(1, 9);
        log.say(1, -5);
        log.compact();
        log.startStorm();
        log.say(2, 0);
        log.say(4, 0);
        log.endStorm();
        log.addShip(1, 7);
        log.addShip(5, 8);
        return log;
    }
}
