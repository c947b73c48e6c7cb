import java.util.function.IntFunction;
import java.util.function.ToLongFunction;

/**
 * "A method that throws an exception changes nothing. If several exceptions apply, the one that is named first is
 * thrown." Each refused call is tried in each scene in which the document refuses it: just outside of what it takes,
 * and as far outside as numbers go.
 */
public final class RefusalTest {
    private static final Class<IllegalArgumentException> ARGUMENT = IllegalArgumentException.class;
    private static final Class<IllegalStateException> STATE = IllegalStateException.class;
    private static final Class<IndexOutOfBoundsException> INDEX = IndexOutOfBoundsException.class;
    private static final int MIN = Integer.MIN_VALUE;
    private static final int MAX = Integer.MAX_VALUE;
    private static final int[] NO_KEYS = {MIN, -1, 10, MAX};
    private static final int[] NO_VALUES = {MIN, -1000, 1000, MAX};
    private static final int[] NO_PACES = {MIN, -1, 0, 6, MAX};
    private static final int[] NO_HOURS = {MIN, -1, 0, 61, MAX};

    private RefusalTest() {
    }

    public static void main(String[] args) {
        for (Scene scene : Scene.ALL) {
            say(scene);
            replay(scene);
            trimTo(scene);
            addShip(scene);
            seekAShipThatIsNot(scene);
            seekAnOffsetThatIsNot(scene);
            passHours(scene);
            partsOfPhrases(scene);
            keys(scene);
            storms(scene);
            ships(scene);
            knownBy(scene);
            hoursOfAShipThatIsNot(scene);
            hoursOfAShip(scene);
        }
        startStorm();
        endStorm();
        replayInAStorm();
        aSeventhShip();
        Check.end();
    }

    private static void say(Scene scene) {
        for (int key : NO_KEYS) {
            Check.refused(scene, "say(" + key + ", 0)", ARGUMENT, log -> log.say(key, 0));
        }
        for (int value : NO_VALUES) {
            Check.refused(scene, "say(0, " + value + ")", ARGUMENT, log -> log.say(0, value));
            Check.refused(scene, "say(9, " + value + ")", ARGUMENT, log -> log.say(9, value));
            Check.refused(scene, "say(10, " + value + ")", ARGUMENT, log -> log.say(10, value));
        }
    }

    private static void startStorm() {
        Check.refused(Scene.STORMY, "startStorm() as one is on", STATE, ParrotLog::startStorm);
        Check.refused(Scene.FULL, "startStorm() as there were 8", STATE, ParrotLog::startStorm);
        Check.refused(Scene.FULL_IN_A_STORM, "startStorm() as the 8th is on", STATE, ParrotLog::startStorm);
    }

    private static void endStorm() {
        Check.refused(Scene.NEW, "endStorm() as there was none", STATE, ParrotLog::endStorm);
        Check.refused(Scene.MIXED, "endStorm() as the one is over", STATE, ParrotLog::endStorm);
        Check.refused(Scene.FULL, "endStorm() as all 8 are over", STATE, ParrotLog::endStorm);
    }

    /** Of a storm that is not: also as a storm is on, since that exception is named behind this one. */
    private static void replay(Scene scene) {
        refusedNumbers(scene, "replay", noNumbers(scene.storms()), storm -> log -> log.replay(storm));
    }

    private static void replayInAStorm() {
        for (Scene scene : new Scene[] {Scene.STORMY, Scene.FULL_IN_A_STORM}) {
            for (int i = 0; i < scene.storms(); i++) {
                int storm = i;
                Check.refused(scene, "replay(" + storm + ")", STATE, log -> log.replay(storm));
            }
        }
    }

    private static void trimTo(Scene scene) {
        for (int offset : noOffsets(scene)) {
            Check.refused(scene, "trimTo(" + offset + ")", ARGUMENT, log -> log.trimTo(offset));
        }
    }

    /** Also as there are 6 ships, since that exception is named behind this one. */
    private static void addShip(Scene scene) {
        for (int pace : NO_PACES) {
            Check.refused(scene, "addShip(" + pace + ", 0)", ARGUMENT, log -> log.addShip(pace, 0));
            Check.refused(scene, "addShip(" + pace + ", -1)", ARGUMENT, log -> log.addShip(pace, -1));
        }
        for (int offset : noOffsets(scene)) {
            Check.refused(scene, "addShip(1, " + offset + ")", ARGUMENT, log -> log.addShip(1, offset));
            Check.refused(scene, "addShip(5, " + offset + ")", ARGUMENT, log -> log.addShip(5, offset));
        }
    }

    private static void aSeventhShip() {
        for (Scene scene : new Scene[] {Scene.FULL, Scene.FULL_IN_A_STORM}) {
            Check.refused(scene, "7th addShip(1, 0)", STATE, log -> log.addShip(1, 0));
            Check.refused(scene, "7th addShip(5, 56)", STATE, log -> log.addShip(5, 56));
        }
    }

    /** Whatever the offset is, since that exception is named behind this one. */
    private static void seekAShipThatIsNot(Scene scene) {
        refusedNumbers(scene, "to 0 seek", noNumbers(scene.ships()), ship -> log -> log.seek(ship, 0));
        for (int offset : noOffsets(scene)) {
            refusedNumbers(scene, "to " + offset + " seek", noNumbers(scene.ships()),
                    ship -> log -> log.seek(ship, offset));
        }
    }

    private static void seekAnOffsetThatIsNot(Scene scene) {
        for (int i = 0; i < scene.ships(); i++) {
            int ship = i;
            for (int offset : noOffsets(scene)) {
                Check.refused(scene, "seek(" + ship + ", " + offset + ")", ARGUMENT, log -> log.seek(ship, offset));
            }
        }
    }

    private static void passHours(Scene scene) {
        for (int hours : NO_HOURS) {
            Check.refused(scene, "passHours(" + hours + ")", ARGUMENT, log -> log.passHours(hours));
        }
    }

    private static void partsOfPhrases(Scene scene) {
        for (int[] offsets : new int[][] {{MIN, -1, scene.next(), MAX}, scene.notKept()}) {
            refusedNumbers(scene, "keyAt", offsets, offset -> log -> log.keyAt(offset));
            refusedNumbers(scene, "valueAt", offsets, offset -> log -> log.valueAt(offset));
            refusedNumbers(scene, "stormAt", offsets, offset -> log -> log.stormAt(offset));
        }
    }

    private static void keys(Scene scene) {
        refusedNumbers(scene, "latestOf", NO_KEYS, key -> log -> log.latestOf(key));
        refusedNumbers(scene, "valueOf", NO_KEYS, key -> log -> log.valueOf(key));
        refusedNumbers(scene, "countOf", NO_KEYS, key -> log -> log.countOf(key));
    }

    private static void storms(Scene scene) {
        int[] none = noNumbers(scene.storms());
        refusedNumbers(scene, "saidIn", none, storm -> log -> log.saidIn(storm));
        refusedNumbers(scene, "keptOf", none, storm -> log -> log.keptOf(storm));
    }

    private static void ships(Scene scene) {
        int[] none = noNumbers(scene.ships());
        refusedNumbers(scene, "offsetOf", none, ship -> log -> log.offsetOf(ship));
        refusedNumbers(scene, "lagOf", none, ship -> log -> log.lagOf(ship));
        refusedNumbers(scene, "heardBy", none, ship -> log -> log.heardBy(ship));
        refusedNumbers(scene, "missedBy", none, ship -> log -> log.missedBy(ship));
        refusedNumbers(scene, "errorsOf", none, ship -> log -> log.errorsOf(ship));
        refusedNumbers(scene, "hoursUntilCaughtUp", none, ship -> log -> log.hoursUntilCaughtUp(ship));
        refusedNumbers(scene, "wouldMiss", none, ship -> log -> log.wouldMiss(ship));
    }

    private static void knownBy(Scene scene) {
        for (int key : new int[] {0, 9, -1, 10}) {
            refusedNumbers(scene, "key " + key + " knownBy", noNumbers(scene.ships()),
                    ship -> log -> log.knownBy(ship, key));
        }
        for (int i = 0; i < scene.ships(); i++) {
            int ship = i;
            refusedNumbers(scene, "by ship " + ship + " known key", NO_KEYS, key -> log -> log.knownBy(ship, key));
        }
    }

    /** Whatever the hours are, since that exception is named behind this one. */
    private static void hoursOfAShipThatIsNot(Scene scene) {
        int[] none = noNumbers(scene.ships());
        for (int hours : new int[] {1, 60, 0, 61}) {
            refusedNumbers(scene, "in " + hours + " errorsIn", none, ship -> log -> log.errorsIn(ship, hours));
            refusedNumbers(scene, "in " + hours + " paceWanted", none, ship -> log -> log.paceWanted(ship, hours));
        }
    }

    private static void hoursOfAShip(Scene scene) {
        for (int i = 0; i < scene.ships(); i++) {
            int ship = i;
            for (int hours : NO_HOURS) {
                String numbers = "(" + ship + ", " + hours + ")";
                Check.refused(scene, "errorsIn" + numbers, ARGUMENT, log -> log.errorsIn(ship, hours));
                Check.refused(scene, "paceWanted" + numbers, ARGUMENT, log -> log.paceWanted(ship, hours));
            }
        }
    }

    /** What is no number of one of so many things; 6 and 8 are as many ships and storms as there can be. */
    private static int[] noNumbers(int count) {
        return new int[] {MIN, -1, count, Math.max(count, 6), Math.max(count, 8), MAX};
    }

    private static int[] noOffsets(Scene scene) {
        return new int[] {MIN, -1, scene.next() + 1, MAX};
    }

    private static void refusedNumbers(Scene scene, String name, int[] numbers,
            IntFunction<ToLongFunction<ParrotLog>> call) {
        for (int number : numbers) {
            Check.refused(scene, name + "(" + number + ")", INDEX, call.apply(number));
        }
    }
}
