import java.util.Arrays;
import java.util.Random;

/** Long runs of calls, the same each time, whose every answer the plain model gives too. */
final class RandomRunsTest {
    private static final int RUNS = 4000;
    private static final int CALLS = 512;
    private static final String[] CALLED = {
        "setRank", "setRank", "setRates", "setRates", "come", "come", "come", "come", "come",
        "come", "correct", "correct", "correct", "order", "order", "setFloor", "fill", "fill",
        "bounce", "close", "close", "acknowledged", "due", "left", "pot", "shortage", "week",
        "slip", "slip", "slip", "toTakeBack", "claim", "claimBySlips", "addWorker",
    };

    private final Random random;
    private final CrewPay pay = new CrewPay();
    private final PlainModel model = new PlainModel();
    private final int workers;
    private final int closeOneIn;

    private RandomRunsTest(int seed) {
        random = new Random(seed);
        workers = 1 + random.nextInt(8);
        closeOneIn = 1 + random.nextInt(8);
    }

    static void run(Checks checks) {
        for (int seed = 0; seed < RUNS; seed++) {
            checks.same("random run " + seed, new RandomRunsTest(seed).firstWrong(), null);
        }
    }

    /** The first call with a wrong answer, or null. */
    private String firstWrong() {
        for (int call = 0; call < CALLS; call++) {
            String name = call < workers ? "addWorker" : CALLED[random.nextInt(CALLED.length)];
            boolean rare = name.equals("close") || name.equals("addWorker") && call >= workers;
            if (rare && random.nextInt(closeOneIn) != 0) {
                name = "claim";
            }
            String wrong = compare(name, arguments(name));
            if (wrong != null) {
                return "call " + call + ": " + wrong;
            }
        }
        return null;
    }

    private String compare(String name, int[] x) {
        String want = Checks.outcome(
                () -> Math.toIntExact(model.call(name, x[0], x[1], x[2], x[3], x[4])));
        String got = Checks.outcome(() -> Calls.call(pay, name, x));
        return got.equals(want) ? null
                : name + Arrays.toString(x) + " answered " + got + ", due is " + want;
    }

    private int[] arguments(String name) {
        int worker = number(workers - 1);
        int week = random.nextInt(3) == 0 ? number(30) : Math.min(30, number(4) + pay.week());
        switch (name) {
            case "addWorker": return of(number(2));
            case "setRank": return of(worker, week, number(2));
            case "setRates": return of(number(2), week, number(10000), number(10000));
            case "come": return of(worker, sheet(), week, number(100), number(100));
            case "correct": return of(worker, sheet(), number(100), number(100));
            case "order": return of(worker, number(2), amount(), 1 + number(200000));
            case "left": return of(number(19));
            case "setFloor": return of(number(400000));
            case "fill": return of(number(2), amount());
            case "bounce": return of(number(8));
            case "pot": case "shortage": return of(number(2));
            case "slip": return of(worker, Math.max(-1, pay.week() - 1 - random.nextInt(4)), number(3));
            default: return of(worker, week);
        }
    }

    /** Mostly one of the low sheets, so that gaps close. */
    private int sheet() {
        return random.nextInt(2) == 0 ? number(5) : number(19);
    }

    private int amount() {
        return random.nextInt(3) == 0 ? number(10000000) : number(1000000);
    }

    /** Mostly 0 to most, now and then a number at or beyond its ends. */
    private int number(int most) {
        switch (random.nextInt(60)) {
            case 0: return -1;
            case 1: return most + 1;
            case 2: return most;
            case 3: return 0;
            case 4: return random.nextInt();
            default: return random.nextInt(most + 1);
        }
    }

    private static int[] of(int... given) {
        return Arrays.copyOf(given, 5);
    }
}
