/** Promises 27 to 34: what is asked of ships. What they refuse stands in RefusalTest. */
public final class ShipsTest {
    private ShipsTest() {
    }

    public static void main(String[] args) {
        shipsOfMixed();
        sixShips();
        lagOfNothingAndOfAll();
        lagOverGaps();
        heard();
        missed();
        known();
        knownLeastAndGreatestKey();
        errors();
        errorsOfKeysThatAreNotKept();
        farthestBehind();
        farthestBehindOfSeveral();
        farthestBehindWithoutALag();
        Check.end();
    }

    private static void shipsOfMixed() {
        ParrotLog log = Logs.mixed();
        Check.due("ships() at first", new ParrotLog().ships(), 0);
        Check.due("ships()", log.ships(), 3);
        dueOffsets(log, 2, 7, 8);
        dueLags(log, 5, 1, 0);
        dueHeard(log, 2, 0, 0);
        dueMissed(log, 1, 0, 0);
        dueErrors(log, 3, 2, 2);
    }

    private static void sixShips() {
        ParrotLog log = Logs.full();
        Check.due("ships() of 6", log.ships(), 6);
        dueOffsets(log, 9, 9, 22, 43, 56, 56);
        dueLags(log, 47, 47, 34, 13, 0, 0);
        dueHeard(log, 1, 1, 2, 3, 1, 0);
        dueMissed(log, 8, 0, 0, 0, 0, 0);
        dueErrors(log, 10, 10, 10, 10, 9, 10);
    }

    private static void dueOffsets(ParrotLog log, int... due) {
        for (int ship = 0; ship < due.length; ship++) {
            Check.due("offsetOf(" + ship + ")", log.offsetOf(ship), due[ship]);
        }
    }

    private static void dueLags(ParrotLog log, int... due) {
        for (int ship = 0; ship < due.length; ship++) {
            Check.due("lagOf(" + ship + ")", log.lagOf(ship), due[ship]);
        }
    }

    private static void dueHeard(ParrotLog log, int... due) {
        for (int ship = 0; ship < due.length; ship++) {
            Check.due("heardBy(" + ship + ")", log.heardBy(ship), due[ship]);
        }
    }

    private static void dueMissed(ParrotLog log, int... due) {
        for (int ship = 0; ship < due.length; ship++) {
            Check.due("missedBy(" + ship + ")", log.missedBy(ship), due[ship]);
        }
    }

    private static void dueErrors(ParrotLog log, int... due) {
        for (int ship = 0; ship < due.length; ship++) {
            Check.due("errorsOf(" + ship + ")", log.errorsOf(ship), due[ship]);
        }
    }

    private static void lagOfNothingAndOfAll() {
        ParrotLog empty = new ParrotLog();
        empty.addShip(1, 0);
        Check.due("lagOf(0) of an empty log", empty.lagOf(0), 0);
        ParrotLog full = Logs.saying(60);
        full.addShip(1, 0);
        full.addShip(1, 60);
        Check.due("lagOf(0) of a full log", full.lagOf(0), 48);
        Check.due("lagOf(1) at the end of a full log", full.lagOf(1), 0);
    }

    private static void lagOverGaps() {
        ParrotLog log = Logs.saying(6);
        log.addShip(1, 1);
        Check.due("lagOf(0) of all behind it", log.lagOf(0), 5);
        log.trimTo(4);
        Check.due("lagOf(0) of those that are kept", log.lagOf(0), 2);
        log.passHours(1);
        Check.due("offsetOf(0) behind the gap", log.offsetOf(0), 5);
        Check.due("lagOf(0) behind the gap", log.lagOf(0), 1);
        log.seek(0, 6);
        Check.due("lagOf(0) at the end", log.lagOf(0), 0);
        ParrotLog mixed = Logs.mixed();
        int[] lags = {5, 5, 5, 4, 3, 3, 2, 1, 0};
        for (int offset = 0; offset < lags.length; offset++) {
            mixed.seek(0, offset);
            Check.due("lagOf(0) at " + offset + " with gaps", mixed.lagOf(0), lags[offset]);
        }
    }

    private static void heard() {
        ParrotLog log = Logs.saying(3);
        log.addShip(2, 0);
        log.passHours(2);
        dueHeard(log, 3);
        log.seek(0, 1);
        log.passHours(1);
        Check.due("heardBy(0) of phrases that it hears again", log.heardBy(0), 5);
    }

    private static void missed() {
        ParrotLog log = new ParrotLog();
        log.addShip(1, 0);
        log.say(1, 1);
        log.say(1, 2);
        log.passHours(1);
        log.trimTo(1);
        Check.due("missedBy(0) of a heard one", log.missedBy(0), 0);
        log.say(1, 3);
        log.compact();
        Check.due("missedBy(0) of the one at its offset", log.missedBy(0), 1);
        log.trimTo(3);
        Check.due("missedBy(0) of one farther on", log.missedBy(0), 2);
        log.say(2, 4);
        log.passHours(1);
        log.seek(0, 0);
        log.trimTo(4);
        Check.due("missedBy(0) of a heard one behind a seek back", log.missedBy(0), 3);
        Check.due("heardBy(0)", log.heardBy(0), 2);
    }

    private static void known() {
        ParrotLog log = new ParrotLog();
        log.addShip(1, 0);
        log.addShip(2, 0);
        log.say(4, 5);
        log.say(4, 6);
        log.say(5, 7);
        Check.due("knownBy(0, 4) at first", log.knownBy(0, 4), 0);
        log.passHours(1);
        Check.due("knownBy(0, 4)", log.knownBy(0, 4), 5);
        Check.due("knownBy(1, 4)", log.knownBy(1, 4), 6);
        Check.due("knownBy(1, 5)", log.knownBy(1, 5), 0);
        log.passHours(1);
        Check.due("knownBy(1, 5) behind another hour", log.knownBy(1, 5), 7);
        log.trimTo(3);
        Check.due("knownBy(1, 5) of a dropped one", log.knownBy(1, 5), 7);
    }

    private static void knownLeastAndGreatestKey() {
        ParrotLog log = new ParrotLog();
        log.addShip(1, 0);
        log.say(0, 20);
        log.say(9, 30);
        log.passHours(2);
        Check.due("knownBy(0, 0)", log.knownBy(0, 0), 20);
        Check.due("knownBy(0, 9)", log.knownBy(0, 9), 30);
        for (int key = 1; key < 9; key++) {
            Check.due("knownBy() of a key that is not said", log.knownBy(0, key), 0);
        }
    }

    private static void errors() {
        ParrotLog log = new ParrotLog();
        log.addShip(5, 0);
        Check.due("errorsOf(0) at first", log.errorsOf(0), 0);
        for (int key = 0; key < 10; key++) {
            log.say(key, 1);
        }
        Check.due("errorsOf(0) of all keys", log.errorsOf(0), 10);
        log.passHours(1);
        Check.due("errorsOf(0) of half of them", log.errorsOf(0), 5);
        log.say(0, 1);
        Check.due("errorsOf(0) as the value is said again", log.errorsOf(0), 5);
        log.say(0, 2);
        Check.due("errorsOf(0) as another value is said", log.errorsOf(0), 6);
        log.passHours(2);
        Check.due("errorsOf(0) as all is heard", log.errorsOf(0), 0);
    }

    /** valueOf() is 0 if there is none, which is what a ship knows of a key at first. */
    private static void errorsOfKeysThatAreNotKept() {
        ParrotLog log = new ParrotLog();
        log.addShip(5, 0);
        log.say(0, 0);
        Check.due("errorsOf(0) of a zero that it did not hear", log.errorsOf(0), 0);
        log.say(0, 3);
        log.say(9, 4);
        log.passHours(1);
        Check.due("errorsOf(0) as all is heard", log.errorsOf(0), 0);
        log.trimTo(2);
        Check.due("errorsOf(0) as key 0 is not kept", log.errorsOf(0), 1);
        log.trimTo(3);
        Check.due("errorsOf(0) as none is kept", log.errorsOf(0), 2);
    }

    private static void farthestBehind() {
        ParrotLog log = Logs.saying(4);
        Check.due("farthestBehind() without ships", log.farthestBehind(), -1);
        log.addShip(1, 4);
        log.addShip(1, 1);
        log.addShip(1, 0);
        log.addShip(1, 2);
        Check.due("farthestBehind()", log.farthestBehind(), 2);
        log.seek(3, 0);
        log.seek(2, 4);
        Check.due("farthestBehind() of the last one", log.farthestBehind(), 3);
    }

    /** "Of several the smallest number": of those with the same lag, though their offsets differ. */
    private static void farthestBehindOfSeveral() {
        ParrotLog log = Logs.saying(4);
        log.addShip(1, 4);
        log.addShip(1, 1);
        log.addShip(1, 0);
        log.addShip(1, 1);
        log.trimTo(1);
        Check.due("farthestBehind() of three with the same lag", log.farthestBehind(), 1);
        log.seek(1, 4);
        Check.due("farthestBehind() of two with the same lag", log.farthestBehind(), 2);
    }

    private static void farthestBehindWithoutALag() {
        ParrotLog log = new ParrotLog();
        log.addShip(1, 0);
        log.addShip(1, 0);
        Check.due("farthestBehind() of an empty log", log.farthestBehind(), 0);
        log.say(1, 1);
        log.seek(0, 1);
        log.seek(1, 1);
        Check.due("farthestBehind() without a lag", log.farthestBehind(), 0);
    }
}
