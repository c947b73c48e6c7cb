import java.lang.reflect.InvocationTargetException;
import java.lang.reflect.Method;
import java.util.Arrays;
import java.util.List;

/** Plays the same runs of 512 calls on ParrotLog and on ModelLog: all answers and exceptions are the same. */
public final class ModelTest {
    private static final int RUNS = 2000;
    /** "An object is used for at most 512 calls": what later calls answer is free. */
    private static final int CALLS = 512;
    private static final List<String> ACTS = List.of("say", "say", "say", "say", "say", "say", "say", "say",
            "startStorm", "endStorm", "replay", "compact", "trimTo", "addShip", "seek", "passHours");
    private static final List<String> QUESTIONS = List.of("hours", "phrases", "nextOffset", "firstOffset", "dropped",
            "isKept", "keyAt", "valueAt", "stormAt", "latestOf", "valueOf", "countOf", "storms", "isStormy", "saidIn",
            "keptOf", "ships", "offsetOf", "lagOf", "heardBy", "missedBy", "knownBy", "errorsOf", "farthestBehind",
            "hoursUntilCaughtUp", "errorsIn", "errorsIn", "paceWanted", "paceWanted", "wouldCompact", "wouldMiss",
            "meanLag", "digest", "digest", "digest");

    private final ParrotLog log = new ParrotLog();
    private final ModelLog model = new ModelLog();
    private final int run;
    private long chance;

    private ModelTest(int run) {
        this.run = run;
        this.chance = run * 7919L + 17;
    }

    public static void main(String[] args) throws ReflectiveOperationException {
        for (int run = 0; run < RUNS; run++) {
            new ModelTest(run).play();
        }
        Check.end();
    }

    private void play() throws ReflectiveOperationException {
        // Runs of many questions tell when an answer goes wrong; runs of many acts go farther.
        int actsInTen = 2 + run % 8;
        for (int i = 1; i < CALLS; i++) {
            call(pick(0, 9) < actsInTen ? nextAct() : QUESTIONS.get(pick(0, QUESTIONS.size() - 1)));
        }
        call("digest");
    }

    private String nextAct() {
        String name = ACTS.get(pick(0, ACTS.size() - 1));
        boolean empties = name.equals("compact") || name.equals("trimTo");
        // In two runs of three the log must become full: there it is emptied but seldom.
        return empties && run % 3 != 0 && pick(0, 19) != 0 ? "say" : name;
    }

    private void call(String name) throws ReflectiveOperationException {
        switch (name) {
            case "say" -> compare(name, near(0, 9), pick(0, 2) == 0 ? 0 : near(-999, 999));
            case "trimTo" -> compare(name, near(model.nextOffset() - 60, model.nextOffset()));
            case "addShip" -> compare(name, near(1, 5), anyOffset());
            case "seek" -> compare(name, anyShip(), anyOffset());
            case "passHours" -> compare(name, pick(0, 3) == 0 ? near(1, 60) : pick(1, 2));
            case "isKept", "keyAt", "valueAt", "stormAt" -> compare(name, anyOffset());
            case "latestOf", "valueOf", "countOf" -> compare(name, near(0, 9));
            case "replay", "saidIn", "keptOf" -> compare(name, near(0, model.storms() - 1));
            case "offsetOf", "lagOf", "heardBy", "missedBy", "errorsOf", "hoursUntilCaughtUp", "wouldMiss" ->
                    compare(name, anyShip());
            case "knownBy" -> compare(name, anyShip(), near(0, 9));
            case "errorsIn", "paceWanted" -> compare(name, anyShip(), pick(0, 1) == 0 ? near(1, 60) : pick(1, 15));
            default -> compare(name);
        }
    }

    private int anyShip() {
        return near(0, model.ships() - 1);
    }

    private int anyOffset() {
        return near(Math.max(0, model.nextOffset() - 50), model.nextOffset());
    }

    /** Mostly a number between the two, sometimes one just outside or one far away. */
    private int near(int least, int most) {
        int kind = pick(0, 39);
        if (kind == 0) {
            return least - 1;
        }
        if (kind == 1) {
            return most + 1;
        }
        if (kind == 2) {
            return pick(0, 1) == 0 ? Integer.MIN_VALUE : Integer.MAX_VALUE;
        }
        return pick(least, Math.max(least, most));
    }

    /** The same numbers in each run of the test: it must fail or pass for ever. */
    private int pick(int least, int most) {
        chance = chance * 6364136223846793005L + 1442695040888963407L;
        return least + (int) ((chance >>> 33) % (most - least + 1));
    }

    private void compare(String name, Integer... values) throws ReflectiveOperationException {
        Class<?>[] types = new Class<?>[values.length];
        Arrays.fill(types, int.class);
        String got = answer(log, ParrotLog.class.getMethod(name, types), values);
        String want = answer(model, ModelLog.class.getMethod(name, types), values);
        if (!got.equals(want)) {
            Check.due("run " + run + ": " + name + List.of(values), got, want);
        }
    }

    private static String answer(Object target, Method method, Integer[] values) throws ReflectiveOperationException {
        try {
            return String.valueOf(method.invoke(target, (Object[]) values));
        } catch (InvocationTargetException e) {
            return e.getCause().getClass().getName();
        }
    }
}
