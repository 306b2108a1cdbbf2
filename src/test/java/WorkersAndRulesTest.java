/** Promises 1 to 4: a new object, addWorker, setRank, setRates. */
final class WorkersAndRulesTest {
    static void run(Checks checks) {
        newObject(checks);
        addWorker(checks);
        addWorkerWrong(checks);
        setRank(checks);
        setRankWrong(checks);
        setRates(checks);
        setRatesWrong(checks);
        rulesDecideWhatIsDue(checks);
    }

    private static void newObject(Checks checks) {
        CrewPay pay = new CrewPay();
        checks.noSuch("new: no worker", () -> pay.claim(0));
        checks.noSuch("new: no order", () -> pay.left(0));
        checks.noSuch("new: no transfer", () -> pay.bounce(0));
        for (int employer = 0; employer < 3; employer++) {
            checks.same("new: pot " + employer, pay.pot(employer), 0);
            checks.same("new: shortage " + employer, pay.shortage(employer), 0);
        }
        checks.same("new: week", pay.week(), 0);
        checks.same("new: nobody is paid", pay.close(), 0);
        checks.same("new: floor", pay.setFloor(0), 20000);
        CrewPay other = new CrewPay();
        pay.addWorker(0);
        pay.fill(0, 5);
        pay.setRates(0, 0, 1, 1);
        checks.noSuch("another object has no workers of this one", () -> other.claim(0));
        checks.same("another object has its own pots", other.pot(0), 0);
        checks.same("another object has its own rates", other.setRates(0, 0, 2, 2), 1000);
        checks.same("another object has its own week", other.week(), 0);
    }

    private static void addWorker(Checks checks) {
        CrewPay pay = new CrewPay();
        for (int number = 0; number < 8; number++) {
            checks.same("worker's number", pay.addWorker(number % 3), number);
        }
        checks.notNow("a ninth worker", () -> pay.addWorker(0));
        checks.notNow("a ninth worker again", () -> pay.addWorker(2));
        checks.same("the eighth is there", pay.acknowledged(7), 0);
        checks.noSuch("the ninth is not there", () -> pay.acknowledged(8));
        checks.same("rank of a new worker", pay.setRank(7, 30, 2), 0);
        checks.same("nothing to take back", pay.toTakeBack(7), 0);
        checks.same("no claim", pay.claim(7), 0);
        pay.fill(1, 100000);
        pay.come(0, 0, 0, 1, 0);
        pay.come(1, 0, 0, 1, 0);
        checks.same("each is paid by the own employer", pay.close(), 1);
        checks.same("worker 1 is employer 1's", pay.slip(1, 0, CrewPay.GROSS), 1000);
        checks.same("worker 0 is not", pay.slip(0, 0, CrewPay.GROSS), 0);
    }

    private static void addWorkerWrong(Checks checks) {
        CrewPay pay = new CrewPay();
        for (int employer : new int[] {-1, 3, Integer.MIN_VALUE, Integer.MAX_VALUE}) {
            checks.noSuch("employer " + employer, () -> pay.addWorker(employer));
        }
        checks.same("the refused ones left no number", pay.addWorker(2), 0);
        for (int more = 0; more < 7; more++) {
            pay.addWorker(1);
        }
        checks.noSuch("no employer goes ahead of too many", () -> pay.addWorker(3));
    }

    private static void setRank(Checks checks) {
        CrewPay pay = new CrewPay();
        pay.addWorker(0);
        pay.addWorker(0);
        checks.same("rank before: first", pay.setRank(0, 5, 1), 0);
        checks.same("rank before: this week's", pay.setRank(0, 5, 2), 1);
        checks.same("rank before: goes on", pay.setRank(0, 30, 1), 2);
        checks.same("rank before: an earlier week", pay.setRank(0, 4, 1), 0);
        checks.same("an earlier rank ends at the later one", pay.setRank(0, 5, 0), 2);
        checks.same("told for just this week", pay.setRank(0, 6, 0), 0);
        checks.same("told rank 0 goes on too", pay.setRank(0, 29, 2), 0);
        checks.same("the last week keeps its own", pay.setRank(0, 30, 0), 1);
        checks.same("the first week was not touched", pay.setRank(0, 0, 1), 0);
        checks.same("another worker's rank is its own", pay.setRank(1, 30, 1), 0);
        checks.same("the same value told again stands there", pay.setRank(1, 10, 0), 0);
        pay.setRank(1, 5, 2);
        checks.same("a told value stops an earlier one", pay.setRank(1, 10, 1), 0);
        checks.same("and the weeks ahead of it have it", pay.setRank(1, 9, 1), 2);
    }

    private static void setRankWrong(Checks checks) {
        CrewPay pay = new CrewPay();
        checks.noSuch("setRank of nobody", () -> pay.setRank(0, 0, 0));
        pay.addWorker(0);
        checks.noSuch("worker -1", () -> pay.setRank(-1, 0, 0));
        checks.noSuch("worker 1", () -> pay.setRank(1, 0, 0));
        checks.noSuch("worker 8", () -> pay.setRank(8, 0, 0));
        checks.noSuch("rank -1", () -> pay.setRank(0, 0, -1));
        checks.noSuch("rank 3", () -> pay.setRank(0, 0, 3));
        checks.outOfRange("week -1", () -> pay.setRank(0, -1, 1));
        checks.outOfRange("week 31", () -> pay.setRank(0, 31, 1));
        checks.noSuch("worker ahead of week", () -> pay.setRank(1, 31, 1));
        checks.noSuch("rank ahead of week", () -> pay.setRank(0, 31, 3));
        checks.same("nothing was told", pay.setRank(0, 30, 0), 0);
    }

    private static void setRates(Checks checks) {
        CrewPay pay = new CrewPay();
        for (int rank = 0; rank < 3; rank++) {
            checks.same("first rate of " + rank, pay.setRates(rank, 30, 0, 0), 1000);
        }
        checks.same("rate before: earlier week", pay.setRates(0, 10, 10000, 10000), 1000);
        checks.same("rate before: goes on", pay.setRates(0, 29, 5, 6), 10000);
        checks.same("rate before: told 0", pay.setRates(0, 30, 7, 8), 0);
        checks.same("rate before: this week's", pay.setRates(0, 10, 1, 2), 10000);
        checks.same("the answer is the rate by day", pay.setRates(0, 11, 3, 4), 1);
        checks.same("other ranks keep theirs", pay.setRates(1, 29, 3, 4), 1000);
    }

    private static void setRatesWrong(Checks checks) {
        CrewPay pay = new CrewPay();
        checks.noSuch("rank -1", () -> pay.setRates(-1, 0, 0, 0));
        checks.noSuch("rank 3", () -> pay.setRates(3, 0, 0, 0));
        checks.noSuch("rank ahead of all", () -> pay.setRates(3, 31, -1, 10001));
        checks.outOfRange("week -1", () -> pay.setRates(0, -1, 0, 0));
        checks.outOfRange("week 31", () -> pay.setRates(0, 31, 0, 0));
        checks.outOfRange("day -1", () -> pay.setRates(0, 0, -1, 0));
        checks.outOfRange("day 10001", () -> pay.setRates(0, 0, 10001, 0));
        checks.outOfRange("night -1", () -> pay.setRates(0, 0, 0, -1));
        checks.outOfRange("night 10001", () -> pay.setRates(0, 0, 0, 10001));
        pay.addWorker(0);
        pay.come(0, 0, 0, 1, 1);
        checks.same("nothing was told", pay.due(0, 0), 2500);
    }

    private static void rulesDecideWhatIsDue(Checks checks) {
        CrewPay pay = new CrewPay();
        pay.addWorker(0);
        pay.come(0, 0, 0, 1, 0);
        pay.come(0, 1, 1, 1, 2);
        pay.come(0, 2, 30, 0, 1);
        pay.setRates(2, 1, 3000, 4000);
        pay.setRates(0, 1, 10, 20);
        checks.same("rate ahead of the change", pay.due(0, 0), 1000);
        checks.same("rate of the change", pay.due(0, 1), 50);
        checks.same("rate goes on", pay.due(0, 30), 20);
        pay.setRank(0, 1, 2);
        checks.same("rank ahead of the change", pay.due(0, 0), 1000);
        checks.same("rank of the change", pay.due(0, 1), 11000);
        checks.same("rank goes on", pay.due(0, 30), 4000);
        pay.setRank(0, 0, 1);
        checks.same("an earlier rank with its own rates", pay.due(0, 0), 1000);
        checks.same("does not reach the told week", pay.due(0, 1), 11000);
    }
}
