import java.math.BigInteger;

/**
 * Promises 35 to 41: what would be, the mean lag and the digest. What they refuse stands in RefusalTest, and that they
 * change nothing in QuestionTest.
 */
public final class WouldBeTest {
    private WouldBeTest() {
    }

    public static void main(String[] args) {
        hoursUntilCaughtUp();
        hoursOfTheGreatestLag();
        hoursOverAGap();
        hoursWithoutALag();
        hoursInAStorm();
        errorsIn();
        errorsInOneHourAndSixty();
        errorsInAsTheyComeAndGo();
        errorsInAStorm();
        errorsInOfDroppedKeys();
        paceWanted();
        theLeastPaceAndTheGreatest();
        paceWantedInSixtyHours();
        paceWantedWithoutALag();
        paceWantedIsNotOfTheShip();
        paceWantedInAStorm();
        wouldCompact();
        wouldCompactNothingAndAll();
        wouldMiss();
        wouldMissZeros();
        wouldMissInAFullLog();
        meanLag();
        meanLagWithoutShips();
        meanLagOfSixShips();
        digestOfANewLog();
        digestOfMixed();
        digestInAStorm();
        digestWrapsAround();
        Check.end();
    }

    private static void hoursUntilCaughtUp() {
        ParrotLog log = Logs.mixed();
        Check.due("hoursUntilCaughtUp(0) of 5 with the pace 2", log.hoursUntilCaughtUp(0), 3);
        Check.due("hoursUntilCaughtUp(1) of 1 with the pace 1", log.hoursUntilCaughtUp(1), 1);
        Check.due("hoursUntilCaughtUp(2) of 0 with the pace 5", log.hoursUntilCaughtUp(2), 0);
        log.passHours(2);
        Check.due("hoursUntilCaughtUp(0) 2 hours later", log.hoursUntilCaughtUp(0), 1);
        log.passHours(1);
        Check.due("hoursUntilCaughtUp(0) 3 hours later", log.hoursUntilCaughtUp(0), 0);
    }

    private static void hoursOfTheGreatestLag() {
        ParrotLog log = Logs.saying(60);
        int[] hours = {48, 24, 16, 12, 10};
        for (int ship = 0; ship < 5; ship++) {
            log.addShip(ship + 1, 0);
            Check.due("hoursUntilCaughtUp() of 48 with the pace " + (ship + 1), log.hoursUntilCaughtUp(ship),
                    hours[ship]);
        }
    }

    private static void hoursOverAGap() {
        ParrotLog log = Logs.saying(48);
        log.addShip(1, 0);
        log.compact();
        Check.due("hoursUntilCaughtUp(0) of the 10 that are kept", log.hoursUntilCaughtUp(0), 10);
    }

    /** "0 if so now." */
    private static void hoursWithoutALag() {
        ParrotLog log = new ParrotLog();
        log.addShip(1, 0);
        Check.due("hoursUntilCaughtUp(0) of an empty log", log.hoursUntilCaughtUp(0), 0);
        log.startStorm();
        Check.due("hoursUntilCaughtUp(0) of an empty log in a storm", log.hoursUntilCaughtUp(0), 0);
        log.say(1, 1);
        log.trimTo(1);
        Check.due("hoursUntilCaughtUp(0) as all is dropped", log.hoursUntilCaughtUp(0), 0);
    }

    /** "-1 if not by then": a storm goes on, if nothing is done by hand. */
    private static void hoursInAStorm() {
        ParrotLog log = Logs.mixed();
        log.startStorm();
        Check.due("hoursUntilCaughtUp(0) in a storm", log.hoursUntilCaughtUp(0), -1);
        Check.due("hoursUntilCaughtUp(1) of 1 in a storm", log.hoursUntilCaughtUp(1), -1);
        Check.due("hoursUntilCaughtUp(2) of 0 in a storm", log.hoursUntilCaughtUp(2), 0);
        log.endStorm();
        Check.due("hoursUntilCaughtUp(0) behind it", log.hoursUntilCaughtUp(0), 3);
    }

    private static void errorsIn() {
        ParrotLog log = Logs.mixed();
        int[] errors = {3, 1, 1, 1};
        for (int i = 0; i < errors.length; i++) {
            Check.due("errorsIn(0, " + (i + 1) + ")", log.errorsIn(0, i + 1), errors[i]);
        }
        Check.due("errorsIn(1, 1)", log.errorsIn(1, 1), 2);
        Check.due("errorsIn(2, 1) at the end", log.errorsIn(2, 1), 2);
    }

    /** "If hours is not 1 to 60": both are taken. */
    private static void errorsInOneHourAndSixty() {
        ParrotLog log = Logs.saying(10);
        log.addShip(1, 0);
        Check.due("errorsIn(0, 1)", log.errorsIn(0, 1), 9);
        Check.due("errorsIn(0, 9)", log.errorsIn(0, 9), 1);
        Check.due("errorsIn(0, 10)", log.errorsIn(0, 10), 0);
        Check.due("errorsIn(0, 60)", log.errorsIn(0, 60), 0);
    }

    private static void errorsInAsTheyComeAndGo() {
        ParrotLog log = new ParrotLog();
        log.say(4, 1);
        log.say(4, 0);
        log.addShip(1, 0);
        Check.due("errorsOf(0) as it heard neither", log.errorsOf(0), 0);
        Check.due("errorsIn(0, 1) of one that errs anew", log.errorsIn(0, 1), 1);
        Check.due("errorsIn(0, 2) of one that errs no more", log.errorsIn(0, 2), 0);
    }

    private static void errorsInAStorm() {
        ParrotLog log = Logs.mixed();
        log.startStorm();
        Check.due("errorsIn(0, 1) in a storm", log.errorsIn(0, 1), 3);
        Check.due("errorsIn(0, 60) in a storm", log.errorsIn(0, 60), 3);
        log.endStorm();
        Check.due("errorsIn(0, 60) behind it", log.errorsIn(0, 60), 1);
    }

    private static void errorsInOfDroppedKeys() {
        ParrotLog log = Logs.saying(2);
        log.addShip(2, 0);
        log.passHours(1);
        log.trimTo(2);
        Check.due("errorsIn(0, 60) of values that none says anew", log.errorsIn(0, 60), 2);
    }

    private static void paceWanted() {
        ParrotLog log = Logs.saying(11);
        log.addShip(1, 0);
        int[] wanted = {-1, -1, 4, 3, 3, 2, 2, 2, 2, 2, 1, 1};
        for (int i = 0; i < wanted.length; i++) {
            Check.due("paceWanted(0, " + (i + 1) + ") of 11", log.paceWanted(0, i + 1), wanted[i]);
        }
    }

    /** "The least pace, 1 to 5": 1 and 5 are told, and "-1 if 5 does not do". */
    private static void theLeastPaceAndTheGreatest() {
        ParrotLog log = Logs.saying(6);
        log.addShip(3, 0);
        int[] wanted = {-1, 5, 4, 3, 2, 1, 1};
        for (int offset = 0; offset < wanted.length; offset++) {
            log.seek(0, offset);
            Check.due("paceWanted(0, 1) at " + offset + " of 6", log.paceWanted(0, 1), wanted[offset]);
        }
    }

    private static void paceWantedInSixtyHours() {
        ParrotLog log = Logs.saying(48);
        log.addShip(5, 0);
        Check.due("paceWanted(0, 9) of 48", log.paceWanted(0, 9), -1);
        Check.due("paceWanted(0, 10) of 48", log.paceWanted(0, 10), 5);
        Check.due("paceWanted(0, 47) of 48", log.paceWanted(0, 47), 2);
        Check.due("paceWanted(0, 48) of 48", log.paceWanted(0, 48), 1);
        Check.due("paceWanted(0, 60) of 48", log.paceWanted(0, 60), 1);
    }

    private static void paceWantedWithoutALag() {
        ParrotLog log = new ParrotLog();
        log.addShip(5, 0);
        Check.due("paceWanted(0, 1) of an empty log", log.paceWanted(0, 1), 1);
        log.say(1, 1);
        log.passHours(1);
        Check.due("paceWanted(0, 1) at the end", log.paceWanted(0, 1), 1);
    }

    private static void paceWantedIsNotOfTheShip() {
        ParrotLog log = Logs.saying(6);
        log.addShip(1, 0);
        log.addShip(5, 0);
        Check.due("paceWanted(0, 2) of a slow one", log.paceWanted(0, 2), 3);
        Check.due("paceWanted(1, 2) of a fast one", log.paceWanted(1, 2), 3);
    }

    private static void paceWantedInAStorm() {
        ParrotLog log = Logs.mixed();
        log.startStorm();
        Check.due("paceWanted(0, 60) in a storm", log.paceWanted(0, 60), -1);
        Check.due("paceWanted(1, 60) of 1 in a storm", log.paceWanted(1, 60), -1);
        Check.due("paceWanted(2, 60) of 0 in a storm", log.paceWanted(2, 60), 1);
        log.endStorm();
        Check.due("paceWanted(0, 60) behind it", log.paceWanted(0, 60), 1);
    }

    private static void wouldCompact() {
        ParrotLog log = Logs.mixed();
        Check.due("wouldCompact()", log.wouldCompact(), 1);
        log.seek(0, 8);
        Check.due("wouldCompact() as a ship heard a zero", log.wouldCompact(), 2);
        log.seek(1, 8);
        Check.due("wouldCompact() as all ships heard the zeros", log.wouldCompact(), 3);
        Check.due("phrases() behind the questions", log.phrases(), 5);
        Check.due("compact() as it told", log.compact(), 3);
        Check.due("wouldCompact() behind it", log.wouldCompact(), 0);
    }

    private static void wouldCompactNothingAndAll() {
        ParrotLog log = new ParrotLog();
        Check.due("wouldCompact() of an empty log", log.wouldCompact(), 0);
        log.say(1, 0);
        log.say(2, 1);
        Check.due("wouldCompact() without ships", log.wouldCompact(), 1);
        for (int i = 0; i < 48; i++) {
            log.say(2, 0);
        }
        Check.due("wouldCompact() of 48 zeros", log.wouldCompact(), 48);
        log.addShip(1, 0);
        Check.due("wouldCompact() of 48 zeros of which a ship needs one", log.wouldCompact(), 47);
    }

    private static void wouldMiss() {
        ParrotLog log = new ParrotLog();
        log.say(1, 1);
        log.say(1, 2);
        log.say(2, 0);
        log.say(1, 3);
        log.addShip(1, 0);
        log.addShip(1, 1);
        log.addShip(1, 2);
        // Asked ahead of all other questions, as one of those could leave something behind that helps it.
        Check.due("wouldMiss(0)", log.wouldMiss(0), 2);
        Check.due("wouldMiss(1) of the one at its offset", log.wouldMiss(1), 1);
        Check.due("wouldMiss(2)", log.wouldMiss(2), 0);
        log.compact();
        Check.due("missedBy(0) as it told", log.missedBy(0), 2);
        Check.due("missedBy(1) as it told", log.missedBy(1), 1);
        Check.due("missedBy(2) as it told", log.missedBy(2), 0);
        Check.due("wouldMiss(0) behind it", log.wouldMiss(0), 0);
    }

    /** No ship misses a zero that is dropped as a zero, as it is less far on than all ships. */
    private static void wouldMissZeros() {
        ParrotLog log = new ParrotLog();
        log.say(1, 0);
        log.say(2, 0);
        log.addShip(1, 1);
        log.addShip(1, 2);
        Check.due("wouldCompact() of the zero ahead of both", log.wouldCompact(), 1);
        Check.due("wouldMiss(0)", log.wouldMiss(0), 0);
        Check.due("wouldMiss(1)", log.wouldMiss(1), 0);
        log.say(2, 0);
        Check.due("wouldMiss(0) of a zero behind which another one is", log.wouldMiss(0), 1);
        Check.due("wouldMiss(1) of the one that it heard", log.wouldMiss(1), 0);
    }

    private static void wouldMissInAFullLog() {
        ParrotLog log = Logs.full();
        int[] missed = {37, 37, 24, 3, 0, 0};
        for (int ship = 0; ship < 6; ship++) {
            Check.due("wouldMiss(" + ship + ") of 38", log.wouldMiss(ship), missed[ship]);
        }
        Check.due("missedBy(0) behind the questions", log.missedBy(0), 8);
    }

    private static void meanLag() {
        ParrotLog log = Logs.saying(3);
        log.addShip(1, 3);
        Check.dueMean("meanLag() of 0", log.meanLag(), 0.0);
        log.addShip(1, 0);
        Check.dueMean("meanLag() of 0 and 3", log.meanLag(), 1.5);
        log.addShip(1, 2);
        Check.dueMean("meanLag() of 0, 3 and 1", log.meanLag(), 4.0 / 3);
        log.seek(0, 1);
        Check.dueMean("meanLag() of 2, 3 and 1", log.meanLag(), 2.0);
    }

    private static void meanLagWithoutShips() {
        Check.dueMean("meanLag() of a new log", new ParrotLog().meanLag(), 0.0);
        Check.dueMean("meanLag() of phrases without ships", Logs.saying(3).meanLag(), 0.0);
    }

    private static void meanLagOfSixShips() {
        Check.dueMean("meanLag() of 47, 47, 34, 13, 0 and 0", Logs.full().meanLag(), 23.5);
        ParrotLog log = Logs.saying(48);
        for (int ship = 0; ship < 6; ship++) {
            log.addShip(1, 0);
        }
        Check.dueMean("meanLag() of the greatest lags", log.meanLag(), 48.0);
        log.seek(5, 48);
        log.seek(4, 47);
        Check.dueMean("meanLag() of 193 by 6", log.meanLag(), 193.0 / 6);
    }

    /** It has no storms and no ships, and -1 for what is not. */
    private static void digestOfANewLog() {
        long[] head = {0, 0, 0, -1, 0, 0, 0, 0, -1, 0};
        long[] keys = new long[30];
        for (int key = 0; key < 10; key++) {
            keys[3 * key] = -1;
        }
        Check.due("digest() of a new log", new ParrotLog().digest(), mix(mix(1787, head), keys));
    }

    private static void digestOfMixed() {
        long d = mix(1787, 1, 5, 8, 2, 3, 1, 0, 3, 0, 1);
        d = mix(d, -1, 0, 0, 5, -5, 1, 6, 0, 2, 3, 4, 1, 7, 0, 1);
        d = mix(d, -1, 0, 0, -1, 0, 0, -1, 0, 0, -1, 0, 0, -1, 0, 0);
        d = mix(d, 2, 2);
        d = mix(d, 2, 5, 2, 1, 3, 3, 1, 7, 1, 0, 0, 2, 1, 0, 8, 0, 0, 0, 2, 0, 0);
        Check.due("digest()", Logs.mixed().digest(), d);
    }

    private static void digestInAStorm() {
        ParrotLog log = Logs.mixed();
        log.startStorm();
        long d = mix(1787, 1, 5, 8, 2, 3, 2, 1, 3, 0, 1);
        d = mix(d, -1, 0, 0, 5, -5, 1, 6, 0, 2, 3, 4, 1, 7, 0, 1);
        d = mix(d, -1, 0, 0, -1, 0, 0, -1, 0, 0, -1, 0, 0, -1, 0, 0);
        d = mix(d, 2, 2, 0, 0);
        d = mix(d, 2, 5, 2, 1, 3, -1, 1, 7, 1, 0, 0, 2, -1, 0, 8, 0, 0, 0, 2, 0, 0);
        Check.due("digest() in a storm", log.digest(), d);
    }

    /** "Wraps around as a 64-bit integer": compared with a sum that does not, of which the lowest 64 bits are taken. */
    private static void digestWrapsAround() {
        ParrotLog log = Logs.full();
        int[] head = {1, 48, 56, 8, 8, 8, 0, 6, 0, 38};
        BigInteger d = mixExactly(BigInteger.valueOf(1787), head);
        for (int key = 0; key < 10; key++) {
            int latest = key < 6 ? 50 + key : 40 + key;
            d = mixExactly(d, latest, latest - 28, key == 6 || key == 7 ? 4 : 5);
        }
        int[] kept = {0, 6, 7, 7, 7, 7, 7, 7};
        for (int storm = 0; storm < 8; storm++) {
            d = mixExactly(d, 7, kept[storm]);
        }
        d = mixExactly(d, 9, 47, 1, 8, 10, 47, 37);
        d = mixExactly(d, 9, 47, 1, 0, 10, 47, 37);
        d = mixExactly(d, 22, 34, 2, 0, 10, 17, 24);
        d = mixExactly(d, 43, 13, 3, 0, 10, 5, 3);
        d = mixExactly(d, 56, 0, 1, 0, 9, 0, 0);
        d = mixExactly(d, 56, 0, 0, 0, 10, 0, 0);
        Check.due("it needs more than 64 bits", d.bitLength() > 64, true);
        Check.due("digest() of 8 storms and 6 ships", log.digest(), d.longValue());
    }

    private static BigInteger mixExactly(BigInteger start, int... numbers) {
        BigInteger d = start;
        for (int x : numbers) {
            d = d.multiply(BigInteger.valueOf(31)).add(BigInteger.valueOf(x));
        }
        return d;
    }

    private static long mix(long start, long... numbers) {
        long d = start;
        for (long x : numbers) {
            d = d * 31 + x;
        }
        return d;
    }
}
