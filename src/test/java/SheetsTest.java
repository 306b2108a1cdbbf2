/** Promises 5 to 8: come, correct, acknowledged, due. */
final class SheetsTest {
    static void run(Checks checks) {
        come(checks);
        comeTwice(checks);
        comeWrong(checks);
        correct(checks);
        correctWrong(checks);
        acknowledged(checks);
        due(checks);
        dueWrong(checks);
    }

    private static CrewPay withWorkers() {
        CrewPay pay = new CrewPay();
        pay.addWorker(0);
        pay.addWorker(1);
        return pay;
    }

    private static void come(Checks checks) {
        CrewPay pay = withWorkers();
        checks.same("the second first", pay.come(0, 1, 0, 1, 0), 0);
        checks.same("it does not count", pay.due(0, 0), 0);
        checks.same("the fourth", pay.come(0, 3, 0, 4, 0), 0);
        checks.same("the first closes the gap", pay.come(0, 0, 0, 2, 0), 2);
        checks.same("two count", pay.due(0, 0), 3000);
        checks.same("the third", pay.come(0, 2, 0, 0, 0), 4);
        checks.same("all count", pay.due(0, 0), 7000);
        for (int sheet = 19; sheet > 0; sheet--) {
            checks.same("from the last on", pay.come(1, sheet, 30, 100, 100), 0);
        }
        checks.same("all twenty at once", pay.come(1, 0, 30, 100, 100), 20);
        checks.same("with the most hours", pay.due(1, 30), 5000000);
        pay.setRates(0, 30, 10000, 10000);
        checks.same("and the highest rates", pay.due(1, 30), 40000000);
    }

    private static void comeTwice(Checks checks) {
        CrewPay pay = withWorkers();
        checks.same("comes", pay.come(0, 0, 3, 10, 1), 1);
        checks.same("comes again", pay.come(0, 0, 4, 20, 2), 1);
        checks.same("as at first", pay.due(0, 3), 11500);
        checks.same("not as told again", pay.due(0, 4), 0);
        checks.same("waits", pay.come(0, 2, 5, 1, 0), 1);
        checks.same("waits still", pay.come(0, 2, 5, 9, 0), 1);
        checks.same("the gap closes", pay.come(0, 1, 5, 0, 0), 3);
        checks.same("as it came first", pay.due(0, 5), 1000);
        pay.correct(0, 0, 1, 0);
        checks.same("again after a correction", pay.come(0, 0, 3, 10, 1), 3);
        checks.same("the correction stands", pay.due(0, 3), 1000);
        checks.same("the same sheet of another worker", pay.come(1, 0, 3, 10, 1), 1);
        checks.outOfRange("a known sheet out of range", () -> pay.come(0, 0, 31, 1, 1));
    }

    private static void comeWrong(Checks checks) {
        CrewPay pay = withWorkers();
        for (int worker : new int[] {-1, 2, 8, Integer.MAX_VALUE, Integer.MIN_VALUE}) {
            checks.noSuch("worker " + worker, () -> pay.come(worker, 0, 0, 0, 0));
        }
        checks.noSuch("worker ahead of all", () -> pay.come(2, 20, 31, 101, 101));
        checks.outOfRange("sheet -1", () -> pay.come(0, -1, 0, 0, 0));
        checks.outOfRange("sheet 20", () -> pay.come(0, 20, 0, 0, 0));
        checks.outOfRange("week -1", () -> pay.come(0, 0, -1, 0, 0));
        checks.outOfRange("week 31", () -> pay.come(0, 0, 31, 0, 0));
        checks.outOfRange("day -1", () -> pay.come(0, 0, 0, -1, 0));
        checks.outOfRange("day 101", () -> pay.come(0, 0, 0, 101, 0));
        checks.outOfRange("night -1", () -> pay.come(0, 0, 0, 0, -1));
        checks.outOfRange("night 101", () -> pay.come(0, 0, 0, 0, 101));
        checks.same("none has come", pay.acknowledged(0), 0);
        checks.noSuch("none to correct", () -> pay.correct(0, 0, 0, 0));
    }

    private static void correct(Checks checks) {
        CrewPay pay = withWorkers();
        pay.come(0, 0, 2, 10, 20);
        checks.same("hours before", pay.correct(0, 0, 3, 4), 30);
        checks.same("other hours", pay.due(0, 2), 9000);
        checks.same("hours before, corrected", pay.correct(0, 0, 100, 100), 7);
        checks.same("the most hours", pay.due(0, 2), 250000);
        checks.same("hours before, the most", pay.correct(0, 0, 0, 0), 200);
        checks.same("no hours", pay.due(0, 2), 0);
        pay.come(0, 2, 2, 1, 1);
        checks.same("one that does not count yet", pay.correct(0, 2, 5, 0), 2);
        checks.same("does not count by it", pay.acknowledged(0), 1);
        checks.same("nor is it due", pay.due(0, 2), 0);
        pay.come(0, 1, 2, 0, 0);
        checks.same("then as corrected", pay.due(0, 2), 5000);
        pay.come(1, 0, 2, 8, 0);
        pay.correct(0, 0, 1, 0);
        checks.same("another worker's sheet stays", pay.due(1, 2), 8000);
    }

    private static void correctWrong(Checks checks) {
        CrewPay pay = withWorkers();
        pay.come(0, 0, 0, 1, 1);
        pay.come(0, 19, 0, 1, 1);
        checks.noSuch("worker -1", () -> pay.correct(-1, 0, 0, 0));
        checks.noSuch("worker 2", () -> pay.correct(2, 0, 0, 0));
        checks.noSuch("sheet -1", () -> pay.correct(0, -1, 0, 0));
        checks.noSuch("sheet 20", () -> pay.correct(0, 20, 0, 0));
        checks.noSuch("a sheet that has not come", () -> pay.correct(0, 1, 0, 0));
        checks.noSuch("another worker's sheet", () -> pay.correct(1, 0, 0, 0));
        checks.noSuch("no sheet ahead of hours", () -> pay.correct(0, 1, 101, 0));
        checks.outOfRange("day -1", () -> pay.correct(0, 0, -1, 0));
        checks.outOfRange("day 101", () -> pay.correct(0, 0, 101, 0));
        checks.outOfRange("night -1", () -> pay.correct(0, 0, 0, -1));
        checks.outOfRange("night 101", () -> pay.correct(0, 0, 50, 101));
        checks.same("nothing was corrected", pay.correct(0, 0, 0, 0), 2);
        checks.same("the last sheet is one", pay.correct(0, 19, 0, 0), 2);
    }

    private static void acknowledged(Checks checks) {
        CrewPay pay = withWorkers();
        checks.same("none", pay.acknowledged(0), 0);
        pay.come(0, 0, 30, 0, 0);
        checks.same("one, of whatever week", pay.acknowledged(0), 1);
        pay.come(0, 2, 0, 0, 0);
        checks.same("a gap", pay.acknowledged(0), 1);
        pay.come(0, 1, 0, 0, 0);
        checks.same("no gap", pay.acknowledged(0), 3);
        checks.same("another worker", pay.acknowledged(1), 0);
        checks.noSuch("worker -1", () -> pay.acknowledged(-1));
        checks.noSuch("worker 2", () -> pay.acknowledged(2));
        checks.noSuch("worker 8", () -> pay.acknowledged(8));
    }

    private static void due(Checks checks) {
        CrewPay pay = withWorkers();
        pay.come(0, 0, 30, 1, 0);
        pay.come(0, 1, 0, 0, 1);
        pay.come(0, 2, 30, 2, 2);
        checks.same("the last week", pay.due(0, 30), 6000);
        checks.same("the first week", pay.due(0, 0), 1500);
        checks.same("a week between", pay.due(0, 15), 0);
        checks.same("another worker", pay.due(1, 30), 0);
        pay.fill(0, 1500);
        pay.close();
        checks.same("what was paid is due as ever", pay.due(0, 0), 1500);
    }

    private static void dueWrong(Checks checks) {
        CrewPay pay = withWorkers();
        checks.noSuch("worker -1", () -> pay.due(-1, 0));
        checks.noSuch("worker 2", () -> pay.due(2, 0));
        checks.noSuch("worker ahead of week", () -> pay.due(2, 31));
        checks.outOfRange("week -1", () -> pay.due(0, -1));
        checks.outOfRange("week 31", () -> pay.due(0, 31));
    }
}
