import java.util.function.Supplier;
import java.util.function.ToLongFunction;

/** What a log answers to every question, and to acts that follow, as one text, for comparing states. */
final class Answers {
    private static final int KEYS = 10;
    private static final int MOST_HOURS = 60;
    private static final int MOST_SHIPS = 6;

    private Answers() {
    }

    /** Each part asks a new log, as one object answers 512 calls at most. */
    static String of(Supplier<ParrotLog> maker) {
        StringBuilder text = new StringBuilder();
        addWhole(text, maker.get());
        addPhrases(text, maker.get());
        addKeysAndStorms(text, maker.get());
        int ships = maker.get().ships();
        for (int ship = 0; ship < ships; ship++) {
            addShip(text, maker.get(), ship);
        }
        addWhatFollows(text, maker.get());
        return text.toString();
    }

    private static void addWhole(StringBuilder text, ParrotLog log) {
        text.append("hours ").append(log.hours()).append(" phrases ").append(log.phrases());
        text.append(" next ").append(log.nextOffset()).append(" first ").append(log.firstOffset());
        text.append(" dropped ").append(log.dropped()).append(" storms ").append(log.storms());
        text.append(" stormy ").append(log.isStormy()).append(" ships ").append(log.ships());
        text.append(" farthest ").append(log.farthestBehind()).append(" would ").append(log.wouldCompact());
        text.append(" mean ").append(log.meanLag()).append(" digest ").append(log.digest());
    }

    private static void addPhrases(StringBuilder text, ParrotLog log) {
        int next = log.nextOffset();
        for (int offset = Math.max(0, next - 100); offset <= next; offset++) {
            if (log.isKept(offset)) {
                text.append(" at ").append(offset).append(':').append(log.keyAt(offset));
                text.append(',').append(log.valueAt(offset)).append(',').append(log.stormAt(offset));
            }
        }
    }

    private static void addKeysAndStorms(StringBuilder text, ParrotLog log) {
        for (int key = 0; key < KEYS; key++) {
            text.append(" key ").append(log.latestOf(key)).append(',').append(log.valueOf(key));
            text.append(',').append(log.countOf(key));
        }
        int storms = log.storms();
        for (int storm = 0; storm < storms; storm++) {
            text.append(" storm ").append(log.saidIn(storm)).append(',').append(log.keptOf(storm));
        }
    }

    private static void addShip(StringBuilder text, ParrotLog log, int ship) {
        text.append(" ship ").append(log.offsetOf(ship)).append(',').append(log.lagOf(ship));
        text.append(',').append(log.heardBy(ship)).append(',').append(log.missedBy(ship));
        text.append(',').append(log.errorsOf(ship)).append(',').append(log.hoursUntilCaughtUp(ship));
        text.append(',').append(log.wouldMiss(ship)).append(" errs");
        for (int hours = 1; hours <= MOST_HOURS; hours++) {
            text.append(' ').append(log.errorsIn(ship, hours)).append('/').append(log.paceWanted(ship, hours));
        }
        text.append(" knows");
        for (int key = 0; key < KEYS; key++) {
            text.append(' ').append(log.knownBy(ship, key));
        }
    }

    /** A change that no question shows at once, as of a pace or of a storm's number, shows in what acts answer. */
    private static void addWhatFollows(StringBuilder text, ParrotLog log) {
        text.append(" then");
        addAct(text, log, it -> it.say(2, 222));
        addAct(text, log, ParrotLog::endStorm);
        addAct(text, log, it -> it.passHours(1));
        addAct(text, log, it -> it.replay(0));
        for (int i = 0; i < MOST_SHIPS; i++) {
            int ship = i;
            addAct(text, log, it -> it.seek(ship, 0));
        }
        addAct(text, log, it -> it.passHours(1));
        addAct(text, log, ParrotLog::digest);
        addAct(text, log, it -> it.addShip(3, 0));
        addAct(text, log, it -> it.say(0, 0));
        addAct(text, log, it -> it.trimTo(2));
        addAct(text, log, ParrotLog::startStorm);
        addAct(text, log, it -> it.say(9, 999));
        addAct(text, log, it -> it.passHours(1));
        addAct(text, log, ParrotLog::digest);
        addAct(text, log, ParrotLog::endStorm);
        addAct(text, log, ParrotLog::compact);
        addAct(text, log, it -> it.passHours(60));
        addAct(text, log, ParrotLog::digest);
    }

    private static void addAct(StringBuilder text, ParrotLog log, ToLongFunction<ParrotLog> act) {
        text.append(' ');
        try {
            text.append(act.applyAsLong(log));
        } catch (IllegalArgumentException | IllegalStateException | IndexOutOfBoundsException e) {
            text.append(e.getClass().getSimpleName());
        }
    }
}
