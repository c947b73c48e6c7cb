import java.lang.reflect.InvocationTargetException;
import java.lang.reflect.Method;
import java.util.Arrays;
import java.util.List;

/** Plays the same long runs of calls on ParrotLog and on ModelLog: all answers and exceptions are the same. */
public final class ModelTest {
    private static final int RUNS = 300;
    private static final int ACTS = 120;
    private static final List<String> ACT_NAMES = List.of("say", "say", "say", "say", "say", "say", "say", "say",
            "startStorm", "endStorm", "replay", "compact", "trimTo", "addShip", "seek", "passHours");
    private static final List<String> SHIP_QUESTIONS = List.of("offsetOf", "lagOf", "heardBy", "missedBy", "errorsOf",
            "hoursUntilCaughtUp", "wouldMiss");
    private static final List<String> OFFSET_QUESTIONS = List.of("isKept", "keyAt", "valueAt", "stormAt");
    private static final List<String> OTHER_QUESTIONS = List.of("hours", "phrases", "nextOffset", "firstOffset",
            "dropped", "storms", "isStormy", "ships", "farthestBehind", "wouldCompact", "meanLag", "digest");

    private final ParrotLog log = new ParrotLog();
    private final ModelLog model = new ModelLog();
    private final int run;
    private long chance;

    private ModelTest(int run) {
        this.run = run;
        this.chance = run * 7919L + 17;
    }

    public static void main(String[] args) throws ReflectiveOperationException {
        for (int run = 0; run < RUNS; run++) {
            new ModelTest(run).play();
        }
        Check.end();
    }

    private void play() throws ReflectiveOperationException {
        // The first questions of a run come at once, so that the empty log is asked too.
        askAll();
        for (int act = 0; act < ACTS; act++) {
            act(nextAct());
            askAll();
        }
    }

    private String nextAct() {
        String name = ACT_NAMES.get(pick(0, ACT_NAMES.size() - 1));
        boolean empties = name.equals("compact") || name.equals("trimTo");
        // In two runs of three the log must become full: there it is emptied but seldom.
        return empties && run % 3 != 0 && pick(0, 19) != 0 ? "say" : name;
    }

    private void act(String name) throws ReflectiveOperationException {
        switch (name) {
            case "say" -> call(name, near(0, 9), pick(0, 2) == 0 ? 0 : near(-999, 999));
            case "replay" -> call(name, near(0, model.storms() - 1));
            case "trimTo" -> call(name, near(model.nextOffset() - 60, model.nextOffset()));
            case "addShip" -> call(name, near(1, 5), anyOffset());
            case "seek" -> call(name, anyShip(), anyOffset());
            case "passHours" -> call(name, pick(0, 3) == 0 ? near(1, 60) : pick(1, 2));
            default -> call(name);
        }
    }

    private void askAll() throws ReflectiveOperationException {
        for (String name : OTHER_QUESTIONS) {
            call(name);
        }
        for (String name : OFFSET_QUESTIONS) {
            call(name, anyOffset());
        }
        for (String name : List.of("latestOf", "valueOf", "countOf")) {
            call(name, near(0, 9));
        }
        for (String name : List.of("saidIn", "keptOf")) {
            call(name, near(0, model.storms() - 1));
        }
        for (String name : SHIP_QUESTIONS) {
            call(name, anyShip());
        }
        call("knownBy", anyShip(), near(0, 9));
        call("errorsIn", anyShip(), pick(0, 1) == 0 ? near(1, 60) : pick(1, 5));
        call("paceWanted", anyShip(), pick(0, 1) == 0 ? near(1, 60) : pick(1, 20));
    }

    private int anyShip() {
        return near(0, model.ships() - 1);
    }

    private int anyOffset() {
        return near(Math.max(0, model.nextOffset() - 50), model.nextOffset());
    }

    /** Mostly a number between the two, sometimes one just outside or one far away. */
    private int near(int least, int most) {
        int kind = pick(0, 39);
        if (kind == 0) {
            return least - 1;
        }
        if (kind == 1) {
            return most + 1;
        }
        if (kind == 2) {
            return pick(0, 1) == 0 ? Integer.MIN_VALUE : Integer.MAX_VALUE;
        }
        return pick(least, Math.max(least, most));
    }

    /** The same numbers in each run of the test: it must fail or pass for ever. */
    private int pick(int least, int most) {
        chance = chance * 6364136223846793005L + 1442695040888963407L;
        return least + (int) ((chance >>> 33) % (most - least + 1));
    }

    private void call(String name, Integer... values) throws ReflectiveOperationException {
        Class<?>[] types = new Class<?>[values.length];
        Arrays.fill(types, int.class);
        String got = answer(log, ParrotLog.class.getMethod(name, types), values);
        String want = answer(model, ModelLog.class.getMethod(name, types), values);
        if (!got.equals(want)) {
            Check.due("run " + run + ": " + name + List.of(values), got, want);
        }
    }

    private static String answer(Object target, Method method, Integer[] values) throws ReflectiveOperationException {
        try {
            return String.valueOf(method.invoke(target, (Object[]) values));
        } catch (InvocationTargetException e) {
            return e.getCause().getClass().getName();
        }
    }
}
