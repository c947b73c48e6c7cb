import java.util.ArrayList;
import java.util.List;
import java.util.function.ToLongFunction;

/** No question changes what any method answers, those of "nothing is changed" among them. */
public final class QuestionTest {
    private QuestionTest() {
    }

    public static void main(String[] args) {
        for (Scene scene : Scene.ALL) {
            for (ToLongFunction<ParrotLog> question : questions(scene)) {
                Check.changesNothing(scene, scene.name() + ": a question", question);
            }
        }
        Check.end();
    }

    private static List<ToLongFunction<ParrotLog>> questions(Scene scene) {
        List<ToLongFunction<ParrotLog>> all = new ArrayList<>(List.of(ParrotLog::hours, ParrotLog::phrases,
                ParrotLog::nextOffset, ParrotLog::firstOffset, ParrotLog::dropped, ParrotLog::storms,
                log -> log.isStormy() ? 1 : 0, ParrotLog::ships, ParrotLog::farthestBehind, ParrotLog::wouldCompact,
                log -> (long) log.meanLag(), ParrotLog::digest));
        for (int i = 0; i < scene.next(); i++) {
            int offset = i;
            all.add(log -> log.isKept(offset) ? log.keyAt(offset) + log.valueAt(offset) + log.stormAt(offset) : 0);
        }
        for (int i = 0; i < 10; i++) {
            int key = i;
            all.add(log -> log.latestOf(key) + log.valueOf(key) + log.countOf(key));
        }
        for (int i = 0; i < scene.storms(); i++) {
            int storm = i;
            all.add(log -> log.saidIn(storm) + log.keptOf(storm));
        }
        for (int ship = 0; ship < scene.ships(); ship++) {
            addShip(all, ship);
        }
        return all;
    }

    private static void addShip(List<ToLongFunction<ParrotLog>> all, int ship) {
        all.add(log -> log.offsetOf(ship) + log.lagOf(ship) + log.heardBy(ship) + log.missedBy(ship));
        all.add(log -> log.knownBy(ship, 0) + log.knownBy(ship, 9) + log.errorsOf(ship));
        all.add(log -> log.hoursUntilCaughtUp(ship));
        all.add(log -> log.wouldMiss(ship));
        for (int hours : new int[] {1, 2, 60}) {
            all.add(log -> log.errorsIn(ship, hours));
            all.add(log -> log.paceWanted(ship, hours));
        }
    }
}
