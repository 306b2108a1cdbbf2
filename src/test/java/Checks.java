import java.util.Objects;

/** Counts checks, and prints each one that does not hold. */
final class Checks {
    interface Call {
        int run();
    }

    private int passed = 0;
    private int failed = 0;

    void same(String what, Object got, Object want) {
        if (Objects.equals(got, want)) {
            passed++;
        } else {
            failed++;
            System.out.println(what + ": got " + got + ", due is " + want);
        }
    }

    /** The call throws just this: no class below it, which the machine itself might throw. */
    void refused(String what, Class<? extends RuntimeException> want, Call call) {
        same(what, outcome(call), want.getName());
    }

    void noSuch(String what, Call call) {
        refused(what, IndexOutOfBoundsException.class, call);
    }

    void outOfRange(String what, Call call) {
        refused(what, IllegalArgumentException.class, call);
    }

    void notNow(String what, Call call) {
        refused(what, IllegalStateException.class, call);
    }

    /** The answer of a call, or the name of what it throws. */
    static String outcome(Call call) {
        try {
            return Integer.toString(call.run());
        } catch (RuntimeException e) {
            return e.getClass().getName();
        }
    }

    boolean allHold() {
        return failed == 0;
    }

    String summary() {
        return passed + " passed, " + failed + " failed";
    }
}
