import java.util.ArrayList;
import java.util.List;

/** The document's words taken one by one, without a thought of cost: what ParrotLog is compared with. */
public final class ModelLog {
    private static final class Phrase {
        int offset;
        int key;
        int value;
        int storm;
    }

    private static final class Ship {
        int pace;
        int offset;
        int heard;
        int missed;
        int[] known = new int[10];
    }

    private List<Phrase> kept = new ArrayList<>();
    private List<Ship> fleet = new ArrayList<>();
    private List<Integer> said = new ArrayList<>();
    private boolean stormy;
    private int hour;
    private int next;
    private int gone;

    public int say(int key, int value) {
        argument(key >= 0 && key <= 9 && value >= -999 && value <= 999);
        if (kept.size() == 48) {
            drop(kept.get(0));
        }
        Phrase phrase = new Phrase();
        phrase.offset = next++;
        phrase.key = key;
        phrase.value = value;
        phrase.storm = -1;
        if (stormy) {
            phrase.storm = said.size() - 1;
            said.set(phrase.storm, said.get(phrase.storm) + 1);
        }
        kept.add(phrase);
        return phrase.offset;
    }

    public int startStorm() {
        state(!stormy && said.size() < 8);
        stormy = true;
        said.add(0);
        return said.size() - 1;
    }

    public int endStorm() {
        state(stormy);
        stormy = false;
        return said.get(said.size() - 1);
    }

    public int replay(int storm) {
        index(storm >= 0 && storm < said.size());
        state(!stormy);
        List<Phrase> again = new ArrayList<>();
        for (Phrase phrase : kept) {
            if (phrase.storm == storm) {
                again.add(phrase);
            }
        }
        for (Phrase phrase : again) {
            say(phrase.key, phrase.value);
        }
        return again.size();
    }

    public int compact() {
        int before = kept.size();
        for (Phrase phrase : new ArrayList<>(kept)) {
            if (latestOf(phrase.key) > phrase.offset) {
                drop(phrase);
            }
        }
        for (Phrase phrase : new ArrayList<>(kept)) {
            boolean lessFarThanAll = true;
            for (Ship ship : fleet) {
                lessFarThanAll &= phrase.offset < ship.offset;
            }
            if (phrase.value == 0 && lessFarThanAll) {
                drop(phrase);
            }
        }
        return before - kept.size();
    }

    public int trimTo(int offset) {
        argument(offset >= 0 && offset <= next);
        int before = kept.size();
        for (Phrase phrase : new ArrayList<>(kept)) {
            if (phrase.offset < offset) {
                drop(phrase);
            }
        }
        return before - kept.size();
    }

    public int addShip(int pace, int offset) {
        argument(pace >= 1 && pace <= 5 && offset >= 0 && offset <= next);
        state(fleet.size() < 6);
        Ship ship = new Ship();
        ship.pace = pace;
        ship.offset = offset;
        fleet.add(ship);
        return fleet.size() - 1;
    }

    public int seek(int ship, int offset) {
        Ship moved = shipOf(ship);
        argument(offset >= 0 && offset <= next);
        int before = moved.offset;
        moved.offset = offset;
        return before;
    }

    public int passHours(int hours) {
        argument(hours >= 1 && hours <= 60);
        int heard = 0;
        for (int i = 0; i < hours; i++) {
            heard += passHour();
        }
        return heard;
    }

    private int passHour() {
        int heard = 0;
        if (!stormy) {
            for (Ship ship : fleet) {
                for (int i = 0; i < ship.pace; i++) {
                    heard += hearOne(ship);
                }
            }
        }
        hour++;
        return heard;
    }

    private int hearOne(Ship ship) {
        for (Phrase phrase : kept) {
            if (phrase.offset >= ship.offset) {
                ship.known[phrase.key] = phrase.value;
                ship.offset = phrase.offset + 1;
                ship.heard++;
                return 1;
            }
        }
        return 0;
    }

    public int hours() {
        return hour;
    }

    public int phrases() {
        return kept.size();
    }

    public int nextOffset() {
        return next;
    }

    public int firstOffset() {
        return kept.isEmpty() ? -1 : kept.get(0).offset;
    }

    public int dropped() {
        return gone;
    }

    public boolean isKept(int offset) {
        return find(offset) != null;
    }

    public int keyAt(int offset) {
        return phraseAt(offset).key;
    }

    public int valueAt(int offset) {
        return phraseAt(offset).value;
    }

    public int stormAt(int offset) {
        return phraseAt(offset).storm;
    }

    public int latestOf(int key) {
        index(key >= 0 && key <= 9);
        int latest = -1;
        for (Phrase phrase : kept) {
            latest = phrase.key == key ? phrase.offset : latest;
        }
        return latest;
    }

    public int valueOf(int key) {
        int latest = latestOf(key);
        return latest == -1 ? 0 : valueAt(latest);
    }

    public int countOf(int key) {
        index(key >= 0 && key <= 9);
        int count = 0;
        for (Phrase phrase : kept) {
            count += phrase.key == key ? 1 : 0;
        }
        return count;
    }

    public int storms() {
        return said.size();
    }

    public boolean isStormy() {
        return stormy;
    }

    public int saidIn(int storm) {
        index(storm >= 0 && storm < said.size());
        return said.get(storm);
    }

    public int keptOf(int storm) {
        index(storm >= 0 && storm < said.size());
        int count = 0;
        for (Phrase phrase : kept) {
            count += phrase.storm == storm ? 1 : 0;
        }
        return count;
    }

    public int ships() {
        return fleet.size();
    }

    public int offsetOf(int ship) {
        return shipOf(ship).offset;
    }

    public int lagOf(int ship) {
        int lag = 0;
        Ship asked = shipOf(ship);
        for (Phrase phrase : kept) {
            lag += phrase.offset >= asked.offset ? 1 : 0;
        }
        return lag;
    }

    public int heardBy(int ship) {
        return shipOf(ship).heard;
    }

    public int missedBy(int ship) {
        return shipOf(ship).missed;
    }

    public int knownBy(int ship, int key) {
        Ship asked = shipOf(ship);
        index(key >= 0 && key <= 9);
        return asked.known[key];
    }

    public int errorsOf(int ship) {
        Ship asked = shipOf(ship);
        int errors = 0;
        for (int key = 0; key <= 9; key++) {
            errors += asked.known[key] != valueOf(key) ? 1 : 0;
        }
        return errors;
    }

    public int farthestBehind() {
        int farthest = -1;
        for (int ship = 0; ship < fleet.size(); ship++) {
            if (farthest == -1 || lagOf(ship) > lagOf(farthest)) {
                farthest = ship;
            }
        }
        return farthest;
    }

    public int hoursUntilCaughtUp(int ship) {
        shipOf(ship);
        ModelLog would = copy();
        for (int hours = 0; hours <= 60; hours++) {
            if (would.lagOf(ship) == 0) {
                return hours;
            }
            would.passHour();
        }
        return -1;
    }

    public int errorsIn(int ship, int hours) {
        shipOf(ship);
        ModelLog would = copy();
        would.passHours(hours);
        return would.errorsOf(ship);
    }

    public int paceWanted(int ship, int hours) {
        shipOf(ship);
        argument(hours >= 1 && hours <= 60);
        for (int pace = 1; pace <= 5; pace++) {
            ModelLog would = copy();
            would.shipOf(ship).pace = pace;
            would.passHours(hours);
            if (would.lagOf(ship) == 0) {
                return pace;
            }
        }
        return -1;
    }

    public int wouldCompact() {
        return copy().compact();
    }

    public int wouldMiss(int ship) {
        int missed = missedBy(ship);
        ModelLog would = copy();
        would.compact();
        return would.missedBy(ship) - missed;
    }

    public double meanLag() {
        int sum = 0;
        for (int ship = 0; ship < fleet.size(); ship++) {
            sum += lagOf(ship);
        }
        return fleet.isEmpty() ? 0 : (double) sum / fleet.size();
    }

    public long digest() {
        List<Integer> numbers = new ArrayList<>(List.of(hours(), phrases(), nextOffset(), firstOffset(), dropped(),
                storms(), isStormy() ? 1 : 0, ships(), farthestBehind(), wouldCompact()));
        for (int key = 0; key <= 9; key++) {
            numbers.addAll(List.of(latestOf(key), valueOf(key), countOf(key)));
        }
        for (int storm = 0; storm < storms(); storm++) {
            numbers.addAll(List.of(saidIn(storm), keptOf(storm)));
        }
        for (int ship = 0; ship < ships(); ship++) {
            numbers.addAll(List.of(offsetOf(ship), lagOf(ship), heardBy(ship), missedBy(ship), errorsOf(ship),
                    hoursUntilCaughtUp(ship), wouldMiss(ship)));
        }
        long d = 1787;
        for (int x : numbers) {
            d = d * 31 + x;
        }
        return d;
    }

    private void drop(Phrase phrase) {
        for (Ship ship : fleet) {
            ship.missed += ship.offset <= phrase.offset ? 1 : 0;
        }
        kept.remove(phrase);
        gone++;
    }

    /** Phrases never change, so the copy shares them. */
    private ModelLog copy() {
        ModelLog copy = new ModelLog();
        copy.kept = new ArrayList<>(kept);
        copy.said = new ArrayList<>(said);
        for (Ship ship : fleet) {
            Ship same = new Ship();
            same.pace = ship.pace;
            same.offset = ship.offset;
            same.heard = ship.heard;
            same.missed = ship.missed;
            same.known = ship.known.clone();
            copy.fleet.add(same);
        }
        copy.stormy = stormy;
        copy.hour = hour;
        copy.next = next;
        copy.gone = gone;
        return copy;
    }

    private Phrase find(int offset) {
        for (Phrase phrase : kept) {
            if (phrase.offset == offset) {
                return phrase;
            }
        }
        return null;
    }

    private Phrase phraseAt(int offset) {
        Phrase phrase = find(offset);
        index(phrase != null);
        return phrase;
    }

    private Ship shipOf(int ship) {
        index(ship >= 0 && ship < fleet.size());
        return fleet.get(ship);
    }

    private static void argument(boolean holds) {
        if (!holds) {
            throw new IllegalArgumentException();
        }
    }

    private static void state(boolean holds) {
        if (!holds) {
            throw new IllegalStateException();
        }
    }

    private static void index(boolean holds) {
        if (!holds) {
            throw new IndexOutOfBoundsException();
        }
    }
}
