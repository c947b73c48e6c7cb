/** What a log answers to every question that has no exception due, as one text, for comparing states. */
final class Answers {
    private static final int KEYS = 10;

    private Answers() {
    }

    static String of(ParrotLog log) {
        StringBuilder text = new StringBuilder();
        text.append("hours ").append(log.hours()).append(" phrases ").append(log.phrases());
        text.append(" next ").append(log.nextOffset()).append(" first ").append(log.firstOffset());
        text.append(" dropped ").append(log.dropped()).append(" storms ").append(log.storms());
        text.append(" stormy ").append(log.isStormy()).append(" ships ").append(log.ships());
        text.append(" farthest ").append(log.farthestBehind()).append(" would ").append(log.wouldCompact());
        text.append(" mean ").append(log.meanLag()).append(" digest ").append(log.digest());
        addKept(text, log);
        for (int key = 0; key < KEYS; key++) {
            text.append(" key ").append(log.latestOf(key)).append(',').append(log.valueOf(key));
            text.append(',').append(log.countOf(key));
        }
        for (int storm = 0; storm < log.storms(); storm++) {
            text.append(" storm ").append(log.saidIn(storm)).append(',').append(log.keptOf(storm));
        }
        for (int ship = 0; ship < log.ships(); ship++) {
            addShip(text, log, ship);
        }
        return text.toString();
    }

    private static void addKept(StringBuilder text, ParrotLog log) {
        for (int offset = Math.max(0, log.firstOffset()); offset < log.nextOffset(); offset++) {
            if (log.isKept(offset)) {
                text.append(" at ").append(offset).append(':').append(log.keyAt(offset));
                text.append(',').append(log.valueAt(offset)).append(',').append(log.stormAt(offset));
            }
        }
    }

    private static void addShip(StringBuilder text, ParrotLog log, int ship) {
        text.append(" ship ").append(log.offsetOf(ship)).append(',').append(log.lagOf(ship));
        text.append(',').append(log.heardBy(ship)).append(',').append(log.missedBy(ship));
        text.append(',').append(log.errorsOf(ship)).append(',').append(log.hoursUntilCaughtUp(ship));
        text.append(',').append(log.wouldMiss(ship)).append(" errs");
        for (int hours = 1; hours <= 60; hours += 7) {
            text.append(' ').append(log.errorsIn(ship, hours)).append('/').append(log.paceWanted(ship, hours));
        }
        text.append(" knows");
        for (int key = 0; key < KEYS; key++) {
            text.append(' ').append(log.knownBy(ship, key));
        }
    }
}
