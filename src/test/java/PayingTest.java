/** Promises 16 to 21: close, week, slip, toTakeBack, claim, claimBySlips. */
final class PayingTest {
    private static final int GROSS = CrewPay.GROSS, TAKEN_BACK = CrewPay.TAKEN_BACK,
            GARNISHED = CrewPay.GARNISHED, PAID_OUT = CrewPay.PAID_OUT;

    static void run(Checks checks) {
        closeCountsSlips(checks);
        closeAtTheEnd(checks);
        payByRisingNumbers(checks);
        claimWaits(checks);
        latePaidWeeks(checks);
        rulesOfPaidWeeks(checks);
        tooMuchIsTakenBack(checks);
        takenBackComesBackAtOnce(checks);
        aTenthRoundedDown(checks);
        owedTwice(checks);
        slipParts(checks);
        slipWrong(checks);
        claimUpToThisWeek(checks);
        claimBySlips(checks);
        readersWrong(checks);
    }

    private static CrewPay withWorkers(int howMany, int cents) {
        CrewPay pay = new CrewPay();
        for (int worker = 0; worker < howMany; worker++) {
            pay.addWorker(0);
        }
        if (cents > 0) {
            pay.fill(0, cents);
        }
        return pay;
    }

    private static void closeCountsSlips(Checks checks) {
        CrewPay pay = withWorkers(4, 100000);
        pay.addWorker(1);
        pay.come(0, 0, 0, 1, 0);
        pay.come(1, 0, 0, 0, 0);
        pay.come(2, 1, 0, 1, 0);
        pay.come(3, 0, 0, 0, 1);
        pay.come(4, 0, 0, 1, 0);
        checks.same("no hours, no counting sheet, no money: no slip", pay.close(), 2);
        checks.same("the next week begins", pay.week(), 1);
        pay.correct(0, 0, 0, 0);
        pay.come(2, 0, 0, 0, 0);
        checks.same("one below 0, one late", pay.close(), 1);
        checks.same("and the next", pay.week(), 2);
        checks.same("nobody", pay.close(), 0);
        checks.same("it was paid once", pay.pot(0), 100000 - 1000 - 1500 - 1000);
    }

    private static void closeAtTheEnd(Checks checks) {
        CrewPay pay = withWorkers(1, 100000);
        pay.come(0, 0, 30, 1, 0);
        for (int week = 0; week < 31; week++) {
            checks.same("week of now", pay.week(), week);
            checks.same("paid in the last alone", pay.close(), week == 30 ? 1 : 0);
        }
        checks.same("the week 31", pay.week(), 31);
        checks.notNow("no week 31 is closed", pay::close);
        checks.same("nor does another begin", pay.week(), 31);
        pay.correct(0, 0, 0, 0);
        checks.same("claims go on", pay.claim(0), -1000);
        checks.same("by slips too", pay.claimBySlips(0), -1000);
        checks.notNow("but are not reckoned", pay::close);
        checks.same("nothing is to be taken back", pay.toTakeBack(0), 0);
        pay.correct(0, 0, 3, 0);
        checks.same("claims rise", pay.claim(0), 2000);
    }

    private static void payByRisingNumbers(Checks checks) {
        CrewPay pay = withWorkers(3, 3000);
        pay.come(2, 0, 0, 1, 0);
        pay.come(1, 0, 0, 3, 0);
        pay.come(0, 0, 0, 2, 0);
        checks.same("the lowest, and who is small enough", pay.close(), 2);
        checks.same("worker 0", pay.slip(0, 0, GROSS), 2000);
        checks.same("worker 1 finds too little", pay.slip(1, 0, GROSS), 0);
        checks.same("worker 2 finds just enough", pay.slip(2, 0, GROSS), 1000);
        checks.same("the pot is empty", pay.pot(0), 0);
    }

    private static void claimWaits(Checks checks) {
        CrewPay pay = withWorkers(1, 999);
        pay.come(0, 0, 0, 1, 0);
        checks.same("a cent too little", pay.close(), 0);
        checks.same("no part is paid", pay.pot(0), 999);
        checks.same("the claim waits", pay.claim(0), 1000);
        pay.come(0, 1, 1, 1, 0);
        checks.same("and grows", pay.claim(0), 2000);
        pay.fill(0, 1001);
        checks.same("filling pays nothing yet", pay.slip(0, 0, GROSS), 0);
        checks.same("just enough", pay.close(), 1);
        checks.same("no slip of the week that waited", pay.slip(0, 0, GROSS), 0);
        checks.same("all in the week that pays", pay.slip(0, 1, GROSS), 2000);
        checks.same("nothing is claimed", pay.claim(0), 0);
    }

    private static void latePaidWeeks(Checks checks) {
        CrewPay pay = withWorkers(1, 100000);
        pay.come(0, 0, 0, 1, 0);
        pay.come(0, 2, 0, 2, 0);
        pay.close();
        checks.same("one counts", pay.slip(0, 0, GROSS), 1000);
        pay.come(0, 1, 5, 4, 0);
        checks.same("late, of a paid week", pay.claim(0), 2000);
        pay.close();
        checks.same("paid now", pay.slip(0, 1, GROSS), 2000);
        checks.same("the old slip stays", pay.slip(0, 0, GROSS), 1000);
        pay.correct(0, 0, 0, 2);
        checks.same("corrected upwards", pay.claim(0), 2000);
        pay.close();
        checks.same("the difference is paid", pay.slip(0, 2, GROSS), 2000);
        checks.same("nothing is taken back for it", pay.toTakeBack(0), 0);
    }

    private static void rulesOfPaidWeeks(Checks checks) {
        CrewPay pay = withWorkers(1, 100000);
        pay.come(0, 0, 0, 10, 0);
        pay.come(0, 1, 1, 0, 10);
        pay.close();
        pay.close();
        pay.setRates(0, 0, 1100, 1400);
        checks.same("rates of paid weeks", pay.claim(0), 0);
        pay.setRank(0, 1, 1);
        checks.same("rank of a paid week", pay.claim(0), 1000);
        pay.setRates(1, 1, 0, 1200);
        checks.same("rates of this rank", pay.claim(0), -2000);
        pay.close();
        checks.same("are taken back", pay.toTakeBack(0), 2000);
    }

    private static void tooMuchIsTakenBack(Checks checks) {
        CrewPay pay = withWorkers(2, 100000);
        pay.come(0, 0, 0, 10, 0);
        pay.close();
        pay.correct(0, 0, 4, 0);
        checks.same("too much", pay.claim(0), -6000);
        checks.same("not yet to be taken back", pay.toTakeBack(0), 0);
        checks.same("no slip", pay.close(), 0);
        checks.same("its amount", pay.toTakeBack(0), 6000);
        checks.same("is reckoned", pay.claim(0), 0);
        checks.same("the pot keeps its cents", pay.pot(0), 90000);
        checks.same("nothing on the slip", pay.slip(0, 1, GROSS), 0);
        checks.same("nor taken back by it", pay.slip(0, 1, TAKEN_BACK), 0);
        pay.close();
        checks.same("added once", pay.toTakeBack(0), 6000);
        checks.same("nothing from another", pay.toTakeBack(1), 0);
        pay.come(0, 1, 3, 50, 0);
        pay.close();
        checks.same("a tenth", pay.slip(0, 3, TAKEN_BACK), 5000);
        checks.same("the rest is paid out", pay.slip(0, 3, PAID_OUT), 45000);
        checks.same("still to be taken back", pay.toTakeBack(0), 1000);
        pay.come(0, 2, 4, 20, 0);
        pay.close();
        checks.same("no more than what is to be taken back", pay.slip(0, 4, TAKEN_BACK), 1000);
        checks.same("then nothing", pay.toTakeBack(0), 0);
        pay.come(0, 3, 5, 1, 0);
        pay.close();
        checks.same("nor later", pay.slip(0, 5, TAKEN_BACK), 0);
        checks.same("the pot got it all", pay.pot(0), 100000 - 10000 - 45000 - 19000 - 1000);
    }

    private static void takenBackComesBackAtOnce(Checks checks) {
        CrewPay pay = withWorkers(2, 10000);
        pay.come(0, 0, 0, 10, 0);
        pay.close();
        pay.correct(0, 0, 0, 0);
        pay.close();
        pay.fill(0, 10000);
        pay.come(0, 1, 2, 10, 0);
        pay.come(1, 0, 2, 1, 0);
        checks.same("the next worker is paid of it", pay.close(), 2);
        checks.same("just that", pay.slip(1, 2, GROSS), 1000);
        checks.same("and the pot is empty", pay.pot(0), 0);
    }

    private static void aTenthRoundedDown(Checks checks) {
        CrewPay pay = withWorkers(1, 100000);
        pay.come(0, 0, 0, 10, 0);
        pay.close();
        pay.correct(0, 0, 0, 0);
        pay.close();
        pay.setRates(0, 2, 19, 9);
        pay.come(0, 1, 2, 1, 0);
        pay.close();
        checks.same("a tenth of 19", pay.slip(0, 2, TAKEN_BACK), 1);
        checks.same("the rest of 19", pay.slip(0, 2, PAID_OUT), 18);
        pay.come(0, 2, 3, 0, 1);
        pay.close();
        checks.same("a tenth of 9", pay.slip(0, 3, TAKEN_BACK), 0);
        checks.same("the rest of 9", pay.slip(0, 3, PAID_OUT), 9);
    }

    private static void owedTwice(Checks checks) {
        CrewPay pay = withWorkers(1, 100000);
        pay.come(0, 0, 0, 10, 0);
        pay.close();
        pay.correct(0, 0, 7, 0);
        pay.close();
        pay.correct(0, 0, 2, 0);
        pay.close();
        checks.same("both amounts", pay.toTakeBack(0), 8000);
        pay.correct(0, 0, 10, 0);
        checks.same("back up: a claim, not less to take back", pay.claim(0), 8000);
        pay.close();
        checks.same("gross", pay.slip(0, 3, GROSS), 8000);
        checks.same("a tenth of it", pay.slip(0, 3, TAKEN_BACK), 800);
        checks.same("left to take back", pay.toTakeBack(0), 7200);
        checks.same("by slips, with all that was ever added", pay.claimBySlips(0), 0);
    }

    private static void slipParts(Checks checks) {
        CrewPay pay = withWorkers(2, 1000000);
        pay.setFloor(1000);
        pay.come(0, 0, 0, 10, 0);
        pay.close();
        pay.correct(0, 0, 0, 0);
        pay.close();
        pay.order(0, 0, 3000, 2000);
        pay.come(0, 1, 2, 10, 0);
        pay.close();
        int[] parts = {10000, 1000, 2000, 7000};
        for (int part = GROSS; part <= PAID_OUT; part++) {
            checks.same("part " + part, pay.slip(0, 2, part), parts[part]);
            checks.same("part " + part + " of no slip", pay.slip(0, 1, part), 0);
            checks.same("part " + part + " of a week to come", pay.slip(0, 30, part), 0);
            checks.same("part " + part + " of another", pay.slip(1, 2, part), 0);
        }
        pay.correct(0, 1, 0, 0);
        pay.close();
        checks.same("a slip stays as it was", pay.slip(0, 2, GROSS), 10000);
    }

    private static void slipWrong(Checks checks) {
        CrewPay pay = withWorkers(1, 0);
        checks.noSuch("worker -1", () -> pay.slip(-1, 0, 0));
        checks.noSuch("worker 1", () -> pay.slip(1, 0, 0));
        checks.noSuch("worker ahead of the rest", () -> pay.slip(1, 31, 4));
        checks.outOfRange("week -1", () -> pay.slip(0, -1, 0));
        checks.outOfRange("week 31", () -> pay.slip(0, 31, 0));
        checks.outOfRange("part -1", () -> pay.slip(0, 0, CrewPay.NONE));
        checks.outOfRange("part 4", () -> pay.slip(0, 0, 4));
    }

    private static void claimUpToThisWeek(Checks checks) {
        CrewPay pay = withWorkers(1, 100000);
        pay.come(0, 0, 1, 1, 0);
        pay.come(0, 1, 2, 2, 0);
        checks.same("weeks to come", pay.claim(0), 0);
        checks.same("weeks to come, by slips", pay.claimBySlips(0), 0);
        pay.close();
        checks.same("this week", pay.claim(0), 1000);
        checks.same("this week, by slips", pay.claimBySlips(0), 1000);
        pay.close();
        checks.same("paid weeks less", pay.claim(0), 2000);
        checks.same("asking changes nothing", pay.claim(0), 2000);
    }

    private static void claimBySlips(Checks checks) {
        CrewPay pay = withWorkers(1, 8000);
        pay.come(0, 0, 0, 8, 0);
        checks.same("all due", pay.claimBySlips(0), 8000);
        pay.close();
        checks.same("less the gross", pay.claimBySlips(0), 0);
        pay.correct(0, 0, 0, 1);
        checks.same("too much", pay.claimBySlips(0), -6500);
        pay.close();
        checks.same("with what was added", pay.claimBySlips(0), 0);
        pay.come(0, 1, 2, 10, 0);
        pay.close();
        checks.same("what waits", pay.claimBySlips(0), 10000);
        pay.fill(0, 20000);
        pay.close();
        checks.same("what is taken back is no less added", pay.claimBySlips(0), 0);
        checks.same("taken back", pay.toTakeBack(0), 5500);
    }

    private static void readersWrong(Checks checks) {
        CrewPay pay = withWorkers(2, 0);
        for (int worker : new int[] {-1, 2, 8, Integer.MIN_VALUE, Integer.MAX_VALUE}) {
            checks.noSuch("toTakeBack " + worker, () -> pay.toTakeBack(worker));
            checks.noSuch("claim " + worker, () -> pay.claim(worker));
            checks.noSuch("claimBySlips " + worker, () -> pay.claimBySlips(worker));
        }
    }
}
