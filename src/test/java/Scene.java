import java.util.List;
import java.util.function.Supplier;

/**
 * A state in which calls are tried: how it is made, the offset that is said next, how many storms and ships there are,
 * and some offsets below the next one that are not kept. It is made anew for each trial, so that no object of a test is
 * used for more than the 512 calls that the document promises.
 */
record Scene(String name, Supplier<ParrotLog> maker, int next, int storms, boolean stormy, int ships, int... notKept) {
    static final Scene NEW = new Scene("new", ParrotLog::new, 0, 0, false, 0);
    static final Scene MIXED = new Scene("mixed", Logs::mixed, 8, 1, false, 3, 0, 1, 4);
    static final Scene STORMY = new Scene("stormy", Logs::stormy, 10, 2, true, 3, 0, 1, 4);
    static final Scene FULL = new Scene("full", Logs::full, 56, 8, false, 6, 0, 7);
    static final Scene FULL_IN_A_STORM = new Scene("full in a storm", Logs::fullInAStorm, 56, 8, true, 6, 0, 7);
    static final List<Scene> ALL = List.of(NEW, MIXED, STORMY, FULL, FULL_IN_A_STORM);

    ParrotLog make() {
        return maker.get();
    }
}
