/** Promises 35 to 41: what would be, the mean lag and the digest. */
public final class WouldBeTest {
    private static final Class<IllegalArgumentException> ARGUMENT = IllegalArgumentException.class;

    private WouldBeTest() {
    }

    public static void main(String[] args) {
        hoursUntilCaughtUp();
        errorsIn();
        paceWanted();
        inAStorm();
        wouldCompact();
        wouldMiss();
        wrongShips();
        wrongHours();
        meanLag();
        digest();
        Check.end();
    }

    private static void hoursUntilCaughtUp() {
        ParrotLog log = Logs.mixed();
        Check.asked(log, "hoursUntilCaughtUp(0)", () -> log.hoursUntilCaughtUp(0), 3);
        Check.asked(log, "hoursUntilCaughtUp(1)", () -> log.hoursUntilCaughtUp(1), 1);
        Check.asked(log, "hoursUntilCaughtUp(2)", () -> log.hoursUntilCaughtUp(2), 0);
        ParrotLog full = Logs.saying(60);
        full.addShip(1, 0);
        full.addShip(4, 0);
        full.addShip(5, 0);
        Check.asked(full, "hoursUntilCaughtUp() with the pace 1", () -> full.hoursUntilCaughtUp(0), 48);
        Check.asked(full, "hoursUntilCaughtUp() with the pace 4", () -> full.hoursUntilCaughtUp(1), 12);
        Check.asked(full, "hoursUntilCaughtUp() with the pace 5", () -> full.hoursUntilCaughtUp(2), 10);
    }

    private static void errorsIn() {
        ParrotLog log = Logs.mixed();
        Check.asked(log, "errorsIn(0, 1)", () -> log.errorsIn(0, 1), 3);
        Check.asked(log, "errorsIn(0, 2)", () -> log.errorsIn(0, 2), 1);
        Check.asked(log, "errorsIn(0, 3)", () -> log.errorsIn(0, 3), 1);
        Check.asked(log, "errorsIn(0, 60)", () -> log.errorsIn(0, 60), 1);
        Check.asked(log, "errorsIn(1, 60)", () -> log.errorsIn(1, 60), 2);
        ParrotLog turning = new ParrotLog();
        turning.say(4, 1);
        turning.say(4, 0);
        turning.addShip(1, 0);
        Check.asked(turning, "errorsIn(0, 1) of one that errs anew", () -> turning.errorsIn(0, 1), 1);
        Check.asked(turning, "errorsIn(0, 2) of one that errs no more", () -> turning.errorsIn(0, 2), 0);
    }

    private static void paceWanted() {
        ParrotLog log = Logs.saying(11);
        log.addShip(1, 0);
        log.addShip(5, 11);
        int[] wanted = {-1, -1, 4, 3, 3, 2, 2, 2, 2, 2, 1, 1};
        for (int i = 0; i < wanted.length; i++) {
            int hours = i + 1;
            Check.asked(log, "paceWanted(0, " + hours + ")", () -> log.paceWanted(0, hours), wanted[i]);
        }
        Check.asked(log, "paceWanted(0, 60)", () -> log.paceWanted(0, 60), 1);
        Check.asked(log, "paceWanted(1, 1) without a lag", () -> log.paceWanted(1, 1), 1);
        log.seek(0, 1);
        Check.asked(log, "paceWanted(0, 2) of 10", () -> log.paceWanted(0, 2), 5);
        Check.asked(log, "paceWanted(0, 1) of 10", () -> log.paceWanted(0, 1), -1);
    }

    private static void inAStorm() {
        ParrotLog log = Logs.mixed();
        log.startStorm();
        Check.asked(log, "hoursUntilCaughtUp(0) in a storm", () -> log.hoursUntilCaughtUp(0), -1);
        Check.asked(log, "hoursUntilCaughtUp(2) in a storm", () -> log.hoursUntilCaughtUp(2), 0);
        Check.asked(log, "errorsIn(0, 60) in a storm", () -> log.errorsIn(0, 60), 3);
        Check.asked(log, "paceWanted(0, 60) in a storm", () -> log.paceWanted(0, 60), -1);
        Check.asked(log, "paceWanted(2, 60) in a storm", () -> log.paceWanted(2, 60), 1);
        log.endStorm();
        Check.asked(log, "hoursUntilCaughtUp(0) behind it", () -> log.hoursUntilCaughtUp(0), 3);
    }

    private static void wouldCompact() {
        ParrotLog log = Logs.mixed();
        Check.asked(log, "wouldCompact()", log::wouldCompact, 1);
        log.seek(0, 8);
        Check.asked(log, "wouldCompact() as a ship heard a zero", log::wouldCompact, 2);
        log.seek(1, 8);
        Check.asked(log, "wouldCompact() as all ships heard the zeros", log::wouldCompact, 3);
        Check.due("compact() as it told", log.compact(), 3);
        Check.asked(log, "wouldCompact() behind it", log::wouldCompact, 0);
        ParrotLog lonely = new ParrotLog();
        Check.asked(lonely, "wouldCompact() of nothing", lonely::wouldCompact, 0);
        lonely.say(1, 0);
        lonely.say(2, 1);
        Check.asked(lonely, "wouldCompact() without ships", lonely::wouldCompact, 1);
    }

    private static void wouldMiss() {
        ParrotLog log = new ParrotLog();
        log.say(1, 1);
        log.say(1, 2);
        log.say(2, 0);
        log.say(1, 3);
        log.addShip(1, 0);
        log.addShip(1, 1);
        log.addShip(1, 2);
        // Asked ahead of all other questions, as one of those could leave something behind that helps it.
        Check.due("wouldMiss(0) asked first", log.wouldMiss(0), 2);
        Check.asked(log, "wouldMiss(0)", () -> log.wouldMiss(0), 2);
        Check.asked(log, "wouldMiss(1) of the one at its offset", () -> log.wouldMiss(1), 1);
        Check.asked(log, "wouldMiss(2)", () -> log.wouldMiss(2), 0);
        log.compact();
        Check.due("missedBy(0) as it told", log.missedBy(0), 2);
        Check.due("missedBy(1) as it told", log.missedBy(1), 1);
        Check.due("missedBy(2) as it told", log.missedBy(2), 0);
        Check.asked(log, "wouldMiss(0) behind it", () -> log.wouldMiss(0), 0);
    }

    private static void wrongShips() {
        ParrotLog log = Logs.mixed();
        int[] wrong = {Integer.MIN_VALUE, -1, log.ships(), 6, Integer.MAX_VALUE};
        Check.refusedNumbers(log, "hoursUntilCaughtUp", log::hoursUntilCaughtUp, wrong);
        Check.refusedNumbers(log, "wouldMiss", log::wouldMiss, wrong);
        Check.refusedNumbers(log, "errorsIn 1 hour", ship -> log.errorsIn(ship, 1), wrong);
        Check.refusedNumbers(log, "errorsIn 0 hours", ship -> log.errorsIn(ship, 0), wrong);
        Check.refusedNumbers(log, "paceWanted in 1 hour", ship -> log.paceWanted(ship, 1), wrong);
        Check.refusedNumbers(log, "paceWanted in 61 hours", ship -> log.paceWanted(ship, 61), wrong);
    }

    private static void wrongHours() {
        ParrotLog log = Logs.mixed();
        int[] wrong = {Integer.MIN_VALUE, -1, 0, 61, Integer.MAX_VALUE};
        for (int hours : wrong) {
            Check.refused(log, "errorsIn(0, " + hours + ")", ARGUMENT, () -> log.errorsIn(0, hours));
            Check.refused(log, "paceWanted(0, " + hours + ")", ARGUMENT, () -> log.paceWanted(0, hours));
            Check.refused(log, "paceWanted(2, " + hours + ")", ARGUMENT, () -> log.paceWanted(2, hours));
        }
    }

    private static void meanLag() {
        ParrotLog log = Logs.saying(3);
        Check.dueMean("meanLag() without ships", log.meanLag(), 0.0);
        log.addShip(1, 3);
        Check.dueMean("meanLag() of no lag", log.meanLag(), 0.0);
        log.addShip(1, 0);
        Check.dueMean("meanLag() of 0 and 3", log.meanLag(), 1.5);
        log.addShip(1, 2);
        Check.dueMean("meanLag() of 0, 3 and 1", log.meanLag(), 4.0 / 3);
        log.seek(0, 1);
        Check.dueMean("meanLag() of 2, 3 and 1", log.meanLag(), 2.0);
    }

    private static void digest() {
        ParrotLog empty = new ParrotLog();
        long[] head = {0, 0, 0, -1, 0, 0, 0, 0, -1, 0};
        long[] keys = new long[30];
        for (int key = 0; key < 10; key++) {
            keys[3 * key] = -1;
        }
        Check.asked(empty, "digest() of a new log", empty::digest, mix(mix(1787, head), keys));
        ParrotLog log = Logs.mixed();
        long d = mix(1787, 1, 5, 8, 2, 3, 1, 0, 3, 0, 1);
        d = mix(d, -1, 0, 0, 5, -5, 1, 6, 0, 2, 3, 4, 1, 7, 0, 1);
        d = mix(d, -1, 0, 0, -1, 0, 0, -1, 0, 0, -1, 0, 0, -1, 0, 0);
        d = mix(d, 2, 2);
        d = mix(d, 2, 5, 2, 1, 3, 3, 1, 7, 1, 0, 0, 2, 1, 0, 8, 0, 0, 0, 2, 0, 0);
        Check.asked(log, "digest()", log::digest, d);
        log.startStorm();
        d = mix(1787, 1, 5, 8, 2, 3, 2, 1, 3, 0, 1);
        d = mix(d, -1, 0, 0, 5, -5, 1, 6, 0, 2, 3, 4, 1, 7, 0, 1);
        d = mix(d, -1, 0, 0, -1, 0, 0, -1, 0, 0, -1, 0, 0, -1, 0, 0);
        d = mix(d, 2, 2, 0, 0);
        d = mix(d, 2, 5, 2, 1, 3, -1, 1, 7, 1, 0, 0, 2, -1, 0, 8, 0, 0, 0, 2, 0, 0);
        Check.asked(log, "digest() in a storm", log::digest, d);
    }

    private static long mix(long start, long... numbers) {
        long d = start;
        for (long x : numbers) {
            d = d * 31 + x;
        }
        return d;
    }
}
