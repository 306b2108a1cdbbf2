import java.util.ArrayList;
import java.util.List;

/**
 * Every argument of every call at its ends, just beyond them and far beyond them, alone and
 * together: which exception decides, and that a call that throws changes nothing.
 */
final class ArgumentEndsTest {
    private static final String INDEX = IndexOutOfBoundsException.class.getName();
    private static final String RANGE = IllegalArgumentException.class.getName();
    private static final String STATE = IllegalStateException.class.getName();

    /** An argument from least to most; beyond them there is no such thing, or it is out of range. */
    private record Argument(String beyond, int least, int most) {
        boolean holds(int value) {
            return value >= least && value <= most;
        }

        int[] values() {
            return new int[] {least, most, least - 1, most + 1, Integer.MIN_VALUE, Integer.MAX_VALUE};
        }
    }

    private record Row(String name, Argument... arguments) {
    }

    private static final Argument WEEK = in(0, 30), HOURS = in(0, 100), RATE = in(0, 10000),
            CENTS = in(1, 10000000), THREE = of(0, 2);

    private final Checks checks;
    private final boolean full;
    private final int workers;
    private final List<String> untouched;

    private ArgumentEndsTest(Checks checks, boolean full) {
        this.checks = checks;
        this.full = full;
        this.workers = full ? 8 : 2;
        this.untouched = answersAfter(prepared());
    }

    static void run(Checks checks) {
        for (boolean full : new boolean[] {false, true}) {
            ArgumentEndsTest test = new ArgumentEndsTest(checks, full);
            for (Row row : test.rows()) {
                test.every(row, new int[row.arguments().length], 0);
            }
        }
    }

    private static Argument of(int least, int most) {
        return new Argument(INDEX, least, most);
    }

    private static Argument in(int least, int most) {
        return new Argument(RANGE, least, most);
    }

    private Row[] rows() {
        Argument worker = of(0, workers - 1);
        return new Row[] {
            new Row("addWorker", THREE),
            new Row("setRank", worker, WEEK, THREE),
            new Row("setRates", THREE, WEEK, RATE, RATE),
            new Row("come", worker, in(0, 19), WEEK, HOURS, HOURS),
            new Row("correct", worker, of(0, 1), HOURS, HOURS),
            new Row("acknowledged", worker),
            new Row("due", worker, WEEK),
            new Row("order", worker, in(0, 2), CENTS, in(1, 1000000)),
            new Row("left", of(0, full ? 19 : 2)),
            new Row("setFloor", in(0, 10000000)),
            new Row("fill", THREE, CENTS),
            new Row("bounce", of(0, full ? 39 : 2)),
            new Row("pot", THREE),
            new Row("shortage", THREE),
            new Row("close"),
            new Row("week"),
            new Row("slip", worker, WEEK, in(CrewPay.GROSS, CrewPay.PAID_OUT)),
            new Row("toTakeBack", worker),
            new Row("claim", worker),
            new Row("claimBySlips", worker),
        };
    }

    /** Two weeks paid and something of everything; or as much of everything as there may be. */
    private CrewPay prepared() {
        CrewPay pay = new CrewPay();
        pay.setFloor(1000);
        for (int worker = 0; worker < workers; worker++) {
            pay.addWorker(worker % 3);
            pay.come(worker, 0, 0, 10, 0);
            pay.come(worker, 1, 1, 0, 10);
        }
        for (int transfer = 0; transfer < (full ? 40 : 3); transfer++) {
            pay.fill(transfer % 3, 50000);
        }
        for (int order = 0; order < (full ? 20 : 3); order++) {
            pay.order(order % workers, order % 3, 3000, 500);
        }
        pay.close();
        pay.correct(0, 0, 5, 0);
        pay.correct(1, 0, 20, 0);
        for (int week = 1; week < (full ? 31 : 2); week++) {
            pay.close();
        }
        for (int transfer = 0; full && transfer < 40; transfer++) {
            pay.bounce(transfer);
        }
        return pay;
    }

    /** Tries the row with every choice of values for the arguments from this one on. */
    private void every(Row row, int[] chosen, int next) {
        if (next == chosen.length) {
            one(row, chosen.clone());
            return;
        }
        for (int value : row.arguments()[next].values()) {
            chosen[next] = value;
            every(row, chosen, next + 1);
        }
    }

    private void one(Row row, int[] chosen) {
        CrewPay pay = prepared();
        StringBuilder what = new StringBuilder(row.name()).append('(');
        for (int value : chosen) {
            what.append(' ').append(value);
        }
        what.append(full ? " ), all full" : " )");
        String want = exceptionOf(row, chosen);
        String got = Checks.outcome(() -> Calls.call(pay, row.name(), chosen));
        if (want == null) {
            checks.same(what + " is answered", got.matches("-?\\d+"), true);
        } else {
            checks.same(what.toString(), got, want);
            checks.same(what + " changed nothing", answersAfter(pay), untouched);
        }
    }

    /** What the first line of the throws clause that applies names, or null. */
    private String exceptionOf(Row row, int[] chosen) {
        for (String exception : new String[] {INDEX, RANGE}) {
            for (int i = 0; i < chosen.length; i++) {
                Argument argument = row.arguments()[i];
                if (argument.beyond().equals(exception) && !argument.holds(chosen[i])) {
                    return exception;
                }
            }
        }
        boolean limited = List.of("addWorker", "order", "fill", "bounce", "close").contains(row.name());
        return full && limited ? STATE : null;
    }

    /** The answers of calls that show all of the state, by some 240 calls; with those of prepared() under 512. */
    private static List<String> answersAfter(CrewPay pay) {
        List<String> answers = new ArrayList<>();
        for (int worker = 0; worker < 8; worker++) {
            for (String name : new String[] {"acknowledged", "toTakeBack", "claim", "claimBySlips"}) {
                ask(answers, pay, name, worker);
            }
            for (int week : new int[] {0, 1, 30}) {
                ask(answers, pay, "due", worker, week);
            }
            for (int slip = 0; slip < 8; slip++) {
                ask(answers, pay, "slip", worker, slip / 4, slip % 4);
            }
            ask(answers, pay, "setRank", worker, 0, 1);
            ask(answers, pay, "setRank", worker, 30, 1);
        }
        for (int order = 0; order < 20; order++) {
            ask(answers, pay, "left", order);
        }
        for (int three = 0; three < 3; three++) {
            ask(answers, pay, "pot", three);
            ask(answers, pay, "shortage", three);
            ask(answers, pay, "setRates", three, 0, 1, 1);
            ask(answers, pay, "setRates", three, 30, 1, 1);
        }
        ask(answers, pay, "setFloor", 5);
        ask(answers, pay, "week");
        ask(answers, pay, "fill", 0, 1);
        ask(answers, pay, "order", 0, 0, 1, 1);
        ask(answers, pay, "addWorker", 0);
        ask(answers, pay, "close");
        for (int transfer = 0; transfer < 40; transfer++) {
            ask(answers, pay, "bounce", transfer);
        }
        for (int sheet = 0; sheet < 20; sheet++) {
            ask(answers, pay, "correct", 0, sheet, 1, 1);
        }
        return answers;
    }

    private static void ask(List<String> answers, CrewPay pay, String name, int... given) {
        answers.add(name + " " + Checks.outcome(() -> Calls.call(pay, name, given)));
    }
}
