/** The broadcast log of a lighthouse parrot. */
public final class ParrotLog {
    private static final int NONE = -1;
    private static final int KEYS = 10;
    private static final int GREATEST_VALUE = 999;
    private static final int MOST_PHRASES = 48;
    private static final int MOST_STORMS = 8;
    private static final int MOST_SHIPS = 6;
    private static final int GREATEST_PACE = 5;
    private static final int MOST_HOURS = 60;
    private static final long DIGEST_START = 1787L;
    private static final long DIGEST_FACTOR = 31L;

    private final Log log;
    private final int[] saidInStorm;
    private final Ship[] fleet;
    // A replay may drop the very phrases it says again, so it says them from these rows.
    private final int[] replayKeys;
    private final int[] replayValues;
    private int hour;
    private int stormCount;
    private boolean stormOn;
    private int shipCount;

    public ParrotLog() {
        log = new Log();
        saidInStorm = new int[MOST_STORMS];
        fleet = new Ship[MOST_SHIPS];
        for (int i = 0; i < MOST_SHIPS; i++) {
            fleet[i] = new Ship();
        }
        replayKeys = new int[MOST_PHRASES];
        replayValues = new int[MOST_PHRASES];
    }

    // ---- the parrot

    public int say(int key, int value) throws IllegalArgumentException {
        if (!isKey(key)) {
            throw new IllegalArgumentException("key is not 0 to 9");
        }
        if (value < -GREATEST_VALUE || value > GREATEST_VALUE) {
            throw new IllegalArgumentException("value is not -999 to 999");
        }
        return speak(key, value);
    }

    public int startStorm() throws IllegalStateException {
        if (stormOn) {
            throw new IllegalStateException("a storm is on");
        }
        if (stormCount >= MOST_STORMS) {
            throw new IllegalStateException("there were 8 storms");
        }
        stormOn = true;
        stormCount++;
        return stormCount - 1;
    }

    public int endStorm() throws IllegalStateException {
        if (!stormOn) {
            throw new IllegalStateException("no storm is on");
        }
        stormOn = false;
        return saidInStorm[stormCount - 1];
    }

    public int replay(int storm) throws IndexOutOfBoundsException, IllegalStateException {
        checkStorm(storm);
        if (stormOn) {
            throw new IllegalStateException("a storm is on");
        }
        int count = log.copyStorm(storm, replayKeys, replayValues);
        for (int i = 0; i < count; i++) {
            speak(replayKeys[i], replayValues[i]);
        }
        return count;
    }

    public int compact() {
        markCompacted();
        return dropMarked();
    }

    public int trimTo(int offset) throws IllegalArgumentException {
        checkReachable(offset);
        log.markAhead(offset);
        return dropMarked();
    }

    public int addShip(int pace, int offset) throws IllegalArgumentException, IllegalStateException {
        if (pace < 1 || pace > GREATEST_PACE) {
            throw new IllegalArgumentException("pace is not 1 to 5");
        }
        checkReachable(offset);
        if (shipCount >= MOST_SHIPS) {
            throw new IllegalStateException("there are 6 ships");
        }
        Ship added = fleet[shipCount];
        added.pace = pace;
        added.offset = offset;
        shipCount++;
        return shipCount - 1;
    }

    public int seek(int ship, int offset) throws IndexOutOfBoundsException, IllegalArgumentException {
        Ship moved = shipNumbered(ship);
        checkReachable(offset);
        int before = moved.offset;
        moved.offset = offset;
        return before;
    }

    public int passHours(int hours) throws IllegalArgumentException {
        checkHours(hours);
        int heard = 0;
        // Hearing changes nothing that another ship hears, so each takes all its hours at once.
        for (int i = 0; i < shipCount; i++) {
            heard += hearNext(fleet[i], mostHeard(hours, fleet[i].pace));
        }
        hour += hours;
        return heard;
    }

    // ---- the log

    public int hours() {
        return hour;
    }

    public int phrases() {
        return log.size;
    }

    public int nextOffset() {
        return log.next;
    }

    public int firstOffset() {
        return log.size == 0 ? NONE : log.offsets[0];
    }

    public int dropped() {
        return log.droppedInAll;
    }

    public boolean isKept(int offset) {
        return log.positionOf(offset) != NONE;
    }

    public int keyAt(int offset) throws IndexOutOfBoundsException {
        return log.keys[keptPosition(offset)];
    }

    public int valueAt(int offset) throws IndexOutOfBoundsException {
        return log.values[keptPosition(offset)];
    }

    public int stormAt(int offset) throws IndexOutOfBoundsException {
        return log.stormNumbers[keptPosition(offset)];
    }

    public int latestOf(int key) throws IndexOutOfBoundsException {
        checkKey(key);
        return log.latestOffset(key);
    }

    public int valueOf(int key) throws IndexOutOfBoundsException {
        checkKey(key);
        return log.latestValue(key);
    }

    public int countOf(int key) throws IndexOutOfBoundsException {
        checkKey(key);
        return log.countKey(key);
    }

    // ---- storms

    public int storms() {
        return stormCount;
    }

    public boolean isStormy() {
        return stormOn;
    }

    public int saidIn(int storm) throws IndexOutOfBoundsException {
        checkStorm(storm);
        return saidInStorm[storm];
    }

    public int keptOf(int storm) throws IndexOutOfBoundsException {
        checkStorm(storm);
        return log.countStorm(storm);
    }

    // ---- ships

    public int ships() {
        return shipCount;
    }

    public int offsetOf(int ship) throws IndexOutOfBoundsException {
        return shipNumbered(ship).offset;
    }

    public int lagOf(int ship) throws IndexOutOfBoundsException {
        return lag(shipNumbered(ship));
    }

    public int heardBy(int ship) throws IndexOutOfBoundsException {
        return shipNumbered(ship).heard;
    }

    public int missedBy(int ship) throws IndexOutOfBoundsException {
        return shipNumbered(ship).missed;
    }

    public int knownBy(int ship, int key) throws IndexOutOfBoundsException {
        Ship asked = shipNumbered(ship);
        checkKey(key);
        return asked.known[key];
    }

    public int errorsOf(int ship) throws IndexOutOfBoundsException {
        return errorsAfter(shipNumbered(ship), 0);
    }

    public int farthestBehind() {
        int farthest = NONE;
        int greatestLag = NONE;
        for (int i = 0; i < shipCount; i++) {
            int lag = lag(fleet[i]);
            if (lag > greatestLag) {
                farthest = i;
                greatestLag = lag;
            }
        }
        return farthest;
    }

    // ---- what would be

    public int hoursUntilCaughtUp(int ship) throws IndexOutOfBoundsException {
        return hoursToGo(shipNumbered(ship));
    }

    public int errorsIn(int ship, int hours) throws IndexOutOfBoundsException, IllegalArgumentException {
        Ship asked = shipNumbered(ship);
        checkHours(hours);
        return errorsAfter(asked, mostHeard(hours, asked.pace));
    }

    public int paceWanted(int ship, int hours) throws IndexOutOfBoundsException, IllegalArgumentException {
        int lag = lag(shipNumbered(ship));
        checkHours(hours);
        for (int pace = 1; pace <= GREATEST_PACE; pace++) {
            if (mostHeard(hours, pace) >= lag) {
                return pace;
            }
        }
        return NONE;
    }

    public int wouldCompact() {
        markCompacted();
        return log.countMarked();
    }

    public int wouldMiss(int ship) throws IndexOutOfBoundsException {
        Ship asked = shipNumbered(ship);
        markCompacted();
        return log.countMarkedFrom(asked.offset);
    }

    public double meanLag() {
        if (shipCount == 0) {
            return 0.0;
        }
        int sum = 0;
        for (int i = 0; i < shipCount; i++) {
            sum += lag(fleet[i]);
        }
        return (double) sum / shipCount;
    }

    public long digest() {
        long d = mix(DIGEST_START, hour);
        d = mix(d, log.size);
        d = mix(d, log.next);
        d = mix(d, firstOffset());
        d = mix(d, log.droppedInAll);
        d = mix(d, stormCount);
        d = mix(d, stormOn ? 1 : 0);
        d = mix(d, shipCount);
        d = mix(d, farthestBehind());
        d = mix(d, wouldCompact());
        d = mixKeys(d);
        d = mixStorms(d);
        return mixShips(d);
    }

    private long mixKeys(long start) {
        long d = start;
        for (int key = 0; key < KEYS; key++) {
            d = mix(d, log.latestOffset(key));
            d = mix(d, log.latestValue(key));
            d = mix(d, log.countKey(key));
        }
        return d;
    }

    private long mixStorms(long start) {
        long d = start;
        for (int storm = 0; storm < stormCount; storm++) {
            d = mix(d, saidInStorm[storm]);
            d = mix(d, log.countStorm(storm));
        }
        return d;
    }

    private long mixShips(long start) {
        long d = start;
        markCompacted();
        for (int i = 0; i < shipCount; i++) {
            Ship ship = fleet[i];
            d = mix(d, ship.offset);
            d = mix(d, lag(ship));
            d = mix(d, ship.heard);
            d = mix(d, ship.missed);
            d = mix(d, errorsAfter(ship, 0));
            d = mix(d, hoursToGo(ship));
            d = mix(d, log.countMarkedFrom(ship.offset));
        }
        return d;
    }

    private static long mix(long d, long x) {
        return d * DIGEST_FACTOR + x;
    }

    // ---- saying and dropping

    private int speak(int key, int value) {
        if (log.size >= MOST_PHRASES) {
            log.markFirst();
            dropMarked();
        }
        int storm = NONE;
        if (stormOn) {
            storm = stormCount - 1;
            saidInStorm[storm]++;
        }
        return log.append(key, value, storm);
    }

    private void markCompacted() {
        log.markCompacted(leastShipOffset());
    }

    /** Without ships it is the next offset: every kept phrase is less far on than that. */
    private int leastShipOffset() {
        int least = log.next;
        for (int i = 0; i < shipCount; i++) {
            least = Math.min(least, fleet[i].offset);
        }
        return least;
    }

    private int dropMarked() {
        for (int i = 0; i < shipCount; i++) {
            fleet[i].missed += log.countMarkedFrom(fleet[i].offset);
        }
        return log.removeMarked();
    }

    // ---- hearing

    private int lag(Ship ship) {
        return log.size - log.positionFrom(ship.offset);
    }

    /** How many phrases a ship can hear in these hours, if as many are kept. */
    private int mostHeard(int hours, int pace) {
        return stormOn ? 0 : hours * pace;
    }

    private int hearNext(Ship ship, int most) {
        int from = log.positionFrom(ship.offset);
        int to = Math.min(log.size, from + most);
        for (int i = from; i < to; i++) {
            ship.hear(log.offsets[i], log.keys[i], log.values[i]);
        }
        return to - from;
    }

    private int hoursToGo(Ship ship) {
        int lag = lag(ship);
        for (int hours = 0; hours <= MOST_HOURS; hours++) {
            if (mostHeard(hours, ship.pace) >= lag) {
                return hours;
            }
        }
        return NONE;
    }

    /** For how many keys a ship would err, if it heard its next phrases, at most so many. */
    private int errorsAfter(Ship ship, int most) {
        int from = log.positionFrom(ship.offset);
        int to = Math.min(log.size, from + most);
        int errors = 0;
        for (int key = 0; key < KEYS; key++) {
            int last = log.latestPosition(key, from, to);
            int known = last == NONE ? ship.known[key] : log.values[last];
            if (known != log.latestValue(key)) {
                errors++;
            }
        }
        return errors;
    }

    // ---- what a caller may give

    private static boolean isKey(int key) {
        return key >= 0 && key < KEYS;
    }

    private static void checkKey(int key) {
        if (!isKey(key)) {
            throw new IndexOutOfBoundsException("key is not 0 to 9");
        }
    }

    private static void checkHours(int hours) {
        if (hours < 1 || hours > MOST_HOURS) {
            throw new IllegalArgumentException("hours is not 1 to 60");
        }
    }

    private void checkReachable(int offset) {
        if (offset < 0 || offset > log.next) {
            throw new IllegalArgumentException("offset is not 0 to the next one");
        }
    }

    private void checkStorm(int storm) {
        if (storm < 0 || storm >= stormCount) {
            throw new IndexOutOfBoundsException("there is no such storm");
        }
    }

    private Ship shipNumbered(int ship) {
        if (ship < 0 || ship >= shipCount) {
            throw new IndexOutOfBoundsException("there is no such ship");
        }
        return fleet[ship];
    }

    private int keptPosition(int offset) {
        int position = log.positionOf(offset);
        if (position == NONE) {
            throw new IndexOutOfBoundsException("no phrase with this offset is kept");
        }
        return position;
    }

    private static final class Ship {
        private final int[] known = new int[KEYS];
        private int pace;
        private int offset;
        private int heard;
        private int missed;

        private void hear(int phraseOffset, int key, int value) {
            known[key] = value;
            offset = phraseOffset + 1;
            heard++;
        }
    }

    /** The kept phrases in the order of their offsets: the parts of each stand at its position of the rows. */
    private static final class Log {
        private final int[] offsets = new int[MOST_PHRASES];
        private final int[] keys = new int[MOST_PHRASES];
        private final int[] values = new int[MOST_PHRASES];
        private final int[] stormNumbers = new int[MOST_PHRASES];
        // Filled anew ahead of each use: it holds nothing from one call to the next.
        private final boolean[] marked = new boolean[MOST_PHRASES];
        private int size;
        private int next;
        private int droppedInAll;

        /** The caller makes room first, as dropping is told to the ships too. */
        private int append(int key, int value, int storm) {
            offsets[size] = next;
            keys[size] = key;
            values[size] = value;
            stormNumbers[size] = storm;
            size++;
            next++;
            return next - 1;
        }

        private void markFirst() {
            for (int i = 0; i < size; i++) {
                marked[i] = i == 0;
            }
        }

        private void markAhead(int offset) {
            for (int i = 0; i < size; i++) {
                marked[i] = offsets[i] < offset;
            }
        }

        private void markCompacted(int leastShipOffset) {
            for (int i = 0; i < size; i++) {
                boolean overtaken = latestPosition(keys[i], i + 1, size) != NONE;
                boolean heardZero = values[i] == 0 && offsets[i] < leastShipOffset;
                marked[i] = overtaken || heardZero;
            }
        }

        private int countMarked() {
            return countMarkedFrom(0);
        }

        private int countMarkedFrom(int offset) {
            int count = 0;
            for (int i = positionFrom(offset); i < size; i++) {
                if (marked[i]) {
                    count++;
                }
            }
            return count;
        }

        private int removeMarked() {
            int left = 0;
            for (int i = 0; i < size; i++) {
                if (!marked[i]) {
                    offsets[left] = offsets[i];
                    keys[left] = keys[i];
                    values[left] = values[i];
                    stormNumbers[left] = stormNumbers[i];
                    left++;
                }
            }
            int removed = size - left;
            size = left;
            droppedInAll += removed;
            return removed;
        }

        /** The position of the first phrase whose offset is not less; the size if there is none. */
        private int positionFrom(int offset) {
            int position = 0;
            while (position < size && offsets[position] < offset) {
                position++;
            }
            return position;
        }

        private int positionOf(int offset) {
            int position = positionFrom(offset);
            return position < size && offsets[position] == offset ? position : NONE;
        }

        /** The last position with this key of those not less than from and less than to. */
        private int latestPosition(int key, int from, int to) {
            for (int i = to - 1; i >= from; i--) {
                if (keys[i] == key) {
                    return i;
                }
            }
            return NONE;
        }

        private int latestOffset(int key) {
            int position = latestPosition(key, 0, size);
            return position == NONE ? NONE : offsets[position];
        }

        private int latestValue(int key) {
            int position = latestPosition(key, 0, size);
            return position == NONE ? 0 : values[position];
        }

        private int countKey(int key) {
            return countEqual(keys, key);
        }

        private int countStorm(int storm) {
            return countEqual(stormNumbers, storm);
        }

        /** How many phrases have this number in one of the rows. */
        private int countEqual(int[] row, int number) {
            int count = 0;
            for (int i = 0; i < size; i++) {
                if (row[i] == number) {
                    count++;
                }
            }
            return count;
        }

        /** Copies keys and values of a storm's phrases into rows of 48, and tells how many they are. */
        private int copyStorm(int storm, int[] toKeys, int[] toValues) {
            int count = 0;
            for (int i = 0; i < size; i++) {
                if (stormNumbers[i] == storm) {
                    toKeys[count] = keys[i];
                    toValues[count] = values[i];
                    count++;
                }
            }
            return count;
        }
    }
}
