/** Promises 27 to 34: what is asked of ships. */
public final class ShipsTest {
    private static final Class<IndexOutOfBoundsException> INDEX = IndexOutOfBoundsException.class;

    private ShipsTest() {
    }

    public static void main(String[] args) {
        shipsOfMixed();
        lagOverGaps();
        missed();
        known();
        errors();
        farthestBehind();
        wrongShips();
        Check.end();
    }

    private static void shipsOfMixed() {
        ParrotLog log = Logs.mixed();
        int[] offsets = {2, 7, 8};
        int[] lags = {5, 1, 0};
        int[] heard = {2, 0, 0};
        int[] missed = {1, 0, 0};
        int[] errors = {3, 2, 2};
        Check.due("ships() at first", new ParrotLog().ships(), 0);
        Check.asked(log, "ships()", log::ships, 3);
        for (int i = 0; i < 3; i++) {
            int ship = i;
            Check.asked(log, "offsetOf(" + ship + ")", () -> log.offsetOf(ship), offsets[ship]);
            Check.asked(log, "lagOf(" + ship + ")", () -> log.lagOf(ship), lags[ship]);
            Check.asked(log, "heardBy(" + ship + ")", () -> log.heardBy(ship), heard[ship]);
            Check.asked(log, "missedBy(" + ship + ")", () -> log.missedBy(ship), missed[ship]);
            Check.asked(log, "errorsOf(" + ship + ")", () -> log.errorsOf(ship), errors[ship]);
        }
    }

    private static void lagOverGaps() {
        ParrotLog log = Logs.saying(6);
        log.addShip(1, 1);
        Check.due("lagOf(0) of all behind it", log.lagOf(0), 5);
        log.trimTo(4);
        Check.due("lagOf(0) of those that are kept", log.lagOf(0), 2);
        log.passHours(1);
        Check.due("offsetOf(0) behind the gap", log.offsetOf(0), 5);
        Check.due("lagOf(0) behind the gap", log.lagOf(0), 1);
        log.seek(0, 6);
        Check.due("lagOf(0) at the end", log.lagOf(0), 0);
    }

    private static void missed() {
        ParrotLog log = new ParrotLog();
        log.addShip(1, 0);
        log.say(1, 1);
        log.say(1, 2);
        log.passHours(1);
        log.trimTo(1);
        Check.due("missedBy(0) of a heard one", log.missedBy(0), 0);
        log.say(1, 3);
        log.compact();
        Check.due("missedBy(0) of the one at its offset", log.missedBy(0), 1);
        log.trimTo(3);
        Check.due("missedBy(0) of one farther on", log.missedBy(0), 2);
        log.say(2, 4);
        log.passHours(1);
        log.seek(0, 0);
        log.trimTo(4);
        Check.due("missedBy(0) of a heard one behind a seek back", log.missedBy(0), 3);
        Check.due("heardBy(0)", log.heardBy(0), 2);
    }

    private static void known() {
        ParrotLog log = new ParrotLog();
        log.addShip(1, 0);
        log.addShip(2, 0);
        log.say(9, 5);
        log.say(9, 6);
        log.say(0, 7);
        Check.asked(log, "knownBy(0, 9) at first", () -> log.knownBy(0, 9), 0);
        log.passHours(1);
        Check.asked(log, "knownBy(0, 9)", () -> log.knownBy(0, 9), 5);
        Check.asked(log, "knownBy(1, 9)", () -> log.knownBy(1, 9), 6);
        Check.asked(log, "knownBy(1, 0)", () -> log.knownBy(1, 0), 0);
        log.passHours(1);
        Check.asked(log, "knownBy(1, 0) behind another hour", () -> log.knownBy(1, 0), 7);
        log.trimTo(3);
        Check.asked(log, "knownBy(1, 0) of a dropped one", () -> log.knownBy(1, 0), 7);
    }

    private static void errors() {
        ParrotLog log = new ParrotLog();
        log.addShip(5, 0);
        Check.asked(log, "errorsOf(0) at first", () -> log.errorsOf(0), 0);
        for (int key = 0; key < 10; key++) {
            log.say(key, 1);
        }
        Check.asked(log, "errorsOf(0) of all keys", () -> log.errorsOf(0), 10);
        log.passHours(1);
        Check.asked(log, "errorsOf(0) of half of them", () -> log.errorsOf(0), 5);
        log.say(0, 1);
        Check.asked(log, "errorsOf(0) as the value is said again", () -> log.errorsOf(0), 5);
        log.say(0, 2);
        Check.asked(log, "errorsOf(0) as another value is said", () -> log.errorsOf(0), 6);
        log.passHours(2);
        Check.asked(log, "errorsOf(0) as all is heard", () -> log.errorsOf(0), 0);
        log.trimTo(11);
        Check.asked(log, "errorsOf(0) as nine keys are not kept", () -> log.errorsOf(0), 9);
    }

    private static void farthestBehind() {
        ParrotLog log = Logs.saying(4);
        Check.asked(log, "farthestBehind() without ships", log::farthestBehind, -1);
        log.addShip(1, 4);
        Check.asked(log, "farthestBehind() without a lag", log::farthestBehind, 0);
        log.addShip(1, 1);
        log.addShip(1, 0);
        log.addShip(1, 2);
        Check.asked(log, "farthestBehind()", log::farthestBehind, 2);
        log.trimTo(1);
        Check.asked(log, "farthestBehind() of two with the same lag", log::farthestBehind, 1);
    }

    private static void wrongShips() {
        ParrotLog log = Logs.mixed();
        int[] wrong = {Integer.MIN_VALUE, -1, log.ships(), 6, Integer.MAX_VALUE};
        Check.refusedNumbers(log, "offsetOf", log::offsetOf, wrong);
        Check.refusedNumbers(log, "lagOf", log::lagOf, wrong);
        Check.refusedNumbers(log, "heardBy", log::heardBy, wrong);
        Check.refusedNumbers(log, "missedBy", log::missedBy, wrong);
        Check.refusedNumbers(log, "errorsOf", log::errorsOf, wrong);
        Check.refusedNumbers(log, "knownBy key 0 by", ship -> log.knownBy(ship, 0), wrong);
        int[] wrongKeys = {Integer.MIN_VALUE, -1, 10, Integer.MAX_VALUE};
        for (int key : wrongKeys) {
            Check.refused(log, "knownBy(0, " + key + ")", INDEX, () -> log.knownBy(0, key));
        }
    }
}
