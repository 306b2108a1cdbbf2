/** Edges at which a sentence of the document turns, a cent or an hour to each side of them. */
final class BoundariesTest {
    private static final int GROSS = CrewPay.GROSS, TAKEN_BACK = CrewPay.TAKEN_BACK,
            GARNISHED = CrewPay.GARNISHED, PAID_OUT = CrewPay.PAID_OUT;

    static void run(Checks checks) {
        firstRules(checks);
        rulesUpToTheNextTold(checks);
        nobodyAndEverybody(checks);
        aCentOfClaim(checks);
        aCentOfThePot(checks);
        claimOfNothingTakesNothingBack(checks);
        aTenthAndWhatIsToBeTakenBack(checks);
        aCentAboveTheFloor(checks);
        floorReachedBetweenOrders(checks);
        floorOfTheClose(checks);
        aCentOfAnOrder(checks);
        ordersOfOtherTimesAndWorkers(checks);
        aCentOfABounce(checks);
        shortageWhilePaying(checks);
        lastSheet(checks);
        sheetsOfWeeksToCome(checks);
        afterTheLastWeek(checks);
        largestSums(checks);
    }

    /** One worker of employer 0 and this much in the pot; all of a slip may be garnished. */
    private static CrewPay withPot(int cents) {
        CrewPay pay = new CrewPay();
        pay.addWorker(0);
        pay.setFloor(0);
        pay.setRates(0, 0, 1, 100);
        if (cents > 0) {
            pay.fill(0, cents);
        }
        return pay;
    }

    /** Such a one from whom this many cents, up to 200, are to be taken back in the week 2. */
    private static CrewPay withToTakeBack(int cents) {
        CrewPay pay = withPot(10000);
        pay.come(0, 0, 0, cents > 100 ? cents - 100 : cents, cents > 100 ? 1 : 0);
        pay.close();
        pay.correct(0, 0, 0, 0);
        pay.close();
        return pay;
    }

    private static void firstRules(Checks checks) {
        for (int week : new int[] {0, 30}) {
            for (int rank = 0; rank < 3; rank++) {
                CrewPay pay = new CrewPay();
                pay.addWorker(0);
                checks.same("first rank", pay.setRank(0, week, rank), 0);
                pay.come(0, 0, week, 1, 0);
                checks.same("first rate by day of " + rank, pay.due(0, week), 1000);
                pay.correct(0, 0, 0, 1);
                checks.same("first rate by night of " + rank, pay.due(0, week), 1500);
                checks.same("and as it is told", pay.setRates(rank, week, 7, 9), 1000);
                checks.same("the rate by night is told with it", pay.due(0, week), 9);
            }
        }
    }

    private static void rulesUpToTheNextTold(Checks checks) {
        CrewPay pay = new CrewPay();
        pay.addWorker(0);
        for (int week = 0; week < 20; week++) {
            pay.come(0, week, week, 1, 1);
        }
        pay.setRates(0, 3, 20, 300);
        pay.setRates(0, 1, 10, 200);
        pay.setRates(0, 3, 30, 400);
        int[] due = {2500, 210, 210, 430, 430};
        for (int week = 0; week < due.length; week++) {
            checks.same("by rates, week " + week, pay.due(0, week), due[week]);
        }
        pay.setRates(1, 0, 1, 1);
        pay.setRates(2, 0, 2, 2);
        pay.setRank(0, 12, 1);
        pay.setRank(0, 10, 2);
        pay.setRank(0, 12, 2);
        pay.setRank(0, 12, 0);
        int[] byRank = {430, 4, 4, 430, 430};
        for (int week = 0; week < byRank.length; week++) {
            checks.same("by ranks, week " + (9 + week), pay.due(0, 9 + week), byRank[week]);
        }
    }

    private static void nobodyAndEverybody(Checks checks) {
        CrewPay nobody = new CrewPay();
        nobody.fill(0, 5);
        checks.same("no worker, no slip", nobody.close(), 0);
        checks.same("but the week is closed", nobody.week(), 1);
        checks.same("and the pot stays", nobody.pot(0), 5);
        checks.same("the first worker may come later", nobody.addWorker(0), 0);
        checks.same("no slip of a week before", nobody.slip(0, 0, GROSS), 0);
        CrewPay all = new CrewPay();
        for (int worker = 0; worker < 8; worker++) {
            all.addWorker(worker % 3);
            all.come(worker, 0, 0, 1, 0);
        }
        for (int employer = 0; employer < 3; employer++) {
            all.fill(employer, 3000);
        }
        checks.same("all eight get a slip", all.close(), 8);
        checks.same("the eighth too", all.slip(7, 0, PAID_OUT), 1000);
        checks.same("two of the last employer's", all.pot(2), 1000);
    }

    private static void aCentOfClaim(Checks checks) {
        CrewPay pay = withPot(10);
        pay.come(0, 0, 0, 1, 0);
        checks.same("a cent above 0", pay.claim(0), 1);
        checks.same("is paid", pay.close(), 1);
        checks.same("gross", pay.slip(0, 0, GROSS), 1);
        checks.same("a claim of 0", pay.claim(0), 0);
        checks.same("is not paid", pay.close(), 0);
        pay.correct(0, 0, 0, 0);
        checks.same("a cent below 0", pay.claim(0), -1);
        checks.same("gets no slip", pay.close(), 0);
        checks.same("and is to be taken back", pay.toTakeBack(0), 1);
        checks.same("the pot paid a cent alone", pay.pot(0), 9);
    }

    private static void aCentOfThePot(Checks checks) {
        int[] pots = {0, 99, 100, 101};
        int[] after = {0, 99, 0, 1};
        for (int i = 0; i < pots.length; i++) {
            CrewPay pay = withPot(pots[i]);
            pay.come(0, 0, 0, 0, 1);
            boolean enough = pots[i] >= 100;
            checks.same("100 of a pot of " + pots[i], pay.close(), enough ? 1 : 0);
            checks.same("leave it", pay.pot(0), after[i]);
            checks.same("the claim then", pay.claim(0), enough ? 0 : 100);
            checks.same("and by slips", pay.claimBySlips(0), enough ? 0 : 100);
        }
    }

    private static void claimOfNothingTakesNothingBack(Checks checks) {
        CrewPay pay = withToTakeBack(100);
        pay.order(0, 0, 10, 10);
        checks.same("a claim of 0", pay.close(), 0);
        checks.same("takes nothing back", pay.toTakeBack(0), 100);
        checks.same("garnishes nothing", pay.left(0), 10);
        pay.bounce(0);
        pay.come(0, 1, 3, 0, 1);
        checks.same("a claim that waits", pay.close(), 0);
        checks.same("takes nothing back either", pay.toTakeBack(0), 100);
        checks.same("nor garnishes", pay.left(0), 10);
    }

    private static void aTenthAndWhatIsToBeTakenBack(Checks checks) {
        for (int owed = 9; owed <= 11; owed++) {
            CrewPay pay = withToTakeBack(owed);
            pay.come(0, 1, 2, 0, 1);
            pay.close();
            int back = Math.min(owed, 10);
            checks.same("a tenth of 100, of " + owed, pay.slip(0, 2, TAKEN_BACK), back);
            checks.same("the rest is paid out", pay.slip(0, 2, PAID_OUT), 100 - back);
            checks.same("left to take back", pay.toTakeBack(0), owed - back);
            checks.same("the pot got it", pay.pot(0), 10000 - owed - 100 + back);
        }
        int[] gross = {9, 10, 19, 20};
        int[] tenth = {0, 1, 1, 2};
        for (int i = 0; i < gross.length; i++) {
            CrewPay pay = withToTakeBack(200);
            pay.come(0, 1, 2, gross[i], 0);
            pay.close();
            checks.same("a tenth of " + gross[i], pay.slip(0, 2, TAKEN_BACK), tenth[i]);
        }
    }

    private static void aCentAboveTheFloor(Checks checks) {
        int[] floors = {99, 100, 101};
        int[] garnished = {1, 0, 0};
        for (int i = 0; i < floors.length; i++) {
            CrewPay pay = withPot(10000);
            pay.setFloor(floors[i]);
            pay.order(0, 0, 50, 50);
            pay.come(0, 0, 0, 0, 1);
            pay.close();
            checks.same("above " + floors[i], pay.slip(0, 0, GARNISHED), garnished[i]);
            checks.same("paid out", pay.slip(0, 0, PAID_OUT), 100 - garnished[i]);
            checks.same("left of the order", pay.left(0), 50 - garnished[i]);
        }
        for (int floor = 89; floor <= 91; floor++) {
            CrewPay pay = withToTakeBack(10);
            pay.setFloor(floor);
            pay.order(0, 0, 50, 50);
            pay.come(0, 1, 2, 0, 1);
            pay.close();
            checks.same("of 90 that are left, above " + floor, pay.slip(0, 2, GARNISHED),
                    floor == 89 ? 1 : 0);
        }
    }

    private static void floorReachedBetweenOrders(Checks checks) {
        int[] floors = {49, 50, 51};
        int[] second = {1, 0, 0};
        for (int i = 0; i < floors.length; i++) {
            CrewPay pay = withPot(10000);
            pay.setFloor(floors[i]);
            pay.order(0, 1, 50, 50);
            pay.order(0, 1, 50, 50);
            pay.come(0, 0, 0, 0, 1);
            pay.close();
            checks.same("the first, floor " + floors[i], pay.left(0), floors[i] == 51 ? 1 : 0);
            checks.same("the second", pay.left(1), 50 - second[i]);
        }
        CrewPay pay = withPot(10000);
        pay.order(0, 2, 50, 50);
        pay.order(0, 0, 60, 60);
        pay.come(0, 0, 0, 0, 1);
        pay.close();
        checks.same("a floor of 0 leaves nothing", pay.slip(0, 0, PAID_OUT), 0);
        checks.same("all is garnished", pay.slip(0, 0, GARNISHED), 100);
        checks.same("the later class finds too little", pay.left(0), 10);
    }

    private static void floorOfTheClose(Checks checks) {
        CrewPay pay = withPot(10000);
        pay.order(0, 0, 1000, 1000);
        pay.come(0, 0, 0, 0, 1);
        pay.setFloor(40);
        pay.setFloor(70);
        pay.close();
        checks.same("the floor at the close", pay.slip(0, 0, GARNISHED), 30);
        pay.setFloor(20);
        checks.same("a paid slip stays", pay.slip(0, 0, GARNISHED), 30);
        checks.same("and its order", pay.left(0), 970);
        pay.come(0, 1, 1, 0, 1);
        pay.close();
        checks.same("the floor at the next close", pay.slip(0, 1, GARNISHED), 80);
    }

    private static void aCentOfAnOrder(Checks checks) {
        CrewPay pay = withPot(10000);
        pay.order(0, 0, 1, 1000000);
        pay.order(0, 0, 20, 1);
        pay.order(0, 0, 20, 20);
        pay.order(0, 0, 21, 20);
        for (int sheet = 0; sheet < 2; sheet++) {
            pay.come(0, sheet, sheet, 0, 1);
            pay.close();
        }
        checks.same("an order of a cent gets it once", pay.left(0), 0);
        checks.same("a part of a cent, twice", pay.left(1), 18);
        checks.same("all in one part", pay.left(2), 0);
        checks.same("a cent more than the part", pay.left(3), 0);
        checks.same("the first slip", pay.slip(0, 0, GARNISHED), 1 + 1 + 20 + 20);
        checks.same("the second slip", pay.slip(0, 1, GARNISHED), 1 + 1);
    }

    private static void ordersOfOtherTimesAndWorkers(Checks checks) {
        CrewPay pay = withPot(10000);
        pay.addWorker(0);
        pay.come(0, 0, 0, 0, 1);
        pay.order(1, 0, 50, 50);
        pay.close();
        checks.same("another worker's order", pay.slip(0, 0, GARNISHED), 0);
        checks.same("gets nothing", pay.left(0), 50);
        pay.order(0, 0, 50, 50);
        pay.close();
        checks.same("an order after the slip gets nothing", pay.left(1), 50);
        pay.come(1, 0, 2, 0, 1);
        pay.close();
        checks.same("the other worker's slip pays the own order", pay.left(0), 0);
        checks.same("and no other", pay.left(1), 50);
    }

    private static void aCentOfABounce(Checks checks) {
        int[] paid = {0, 1, 100};
        for (int hours : paid) {
            CrewPay pay = withPot(100);
            pay.fill(0, 100);
            pay.come(0, 0, 0, hours, 1);
            pay.close();
            checks.same("after " + hours + " more than 100", pay.bounce(0), hours);
            checks.same("the pot", pay.pot(0), 0);
            checks.same("the shortage", pay.shortage(0), hours);
            checks.same("the other bounces too", pay.bounce(1), hours + 100);
        }
        CrewPay pay = withPot(101);
        pay.fill(0, 100);
        checks.same("more than enough", pay.bounce(1), 0);
        checks.same("leaves the rest", pay.pot(0), 101);
        checks.same("as much as is there", pay.bounce(0), 0);
        checks.same("leaves nothing", pay.pot(0), 0);
    }

    private static void shortageWhilePaying(Checks checks) {
        CrewPay pay = withToTakeBack(100);
        pay.come(0, 1, 2, 0, 1);
        pay.bounce(0);
        checks.same("the paid 100 are short", pay.shortage(0), 100);
        checks.same("nothing is paid of it", pay.close(), 0);
        checks.same("the shortage stays at a close", pay.shortage(0), 100);
        pay.fill(0, 199);
        checks.same("99 are over", pay.pot(0), 99);
        checks.same("too little", pay.close(), 0);
        pay.fill(0, 1);
        checks.same("just enough", pay.close(), 1);
        checks.same("a tenth came back", pay.pot(0), 10);
        checks.same("no shortage is made by paying", pay.shortage(0), 0);
        checks.same("a bounce takes it", pay.bounce(1), 189);
    }

    private static void lastSheet(Checks checks) {
        CrewPay pay = new CrewPay();
        pay.addWorker(0);
        for (int sheet = 0; sheet < 18; sheet++) {
            checks.same("in order", pay.come(0, sheet, 0, 1, 0), sheet + 1);
        }
        checks.same("the last one waits", pay.come(0, 19, 0, 1, 0), 18);
        checks.same("eighteen are due", pay.due(0, 0), 18000);
        checks.same("the one ahead of it came", pay.come(0, 18, 0, 1, 0), 20);
        checks.same("twenty are due", pay.due(0, 0), 20000);
        checks.same("the last again", pay.come(0, 19, 0, 100, 100), 20);
        checks.same("is not taken", pay.due(0, 0), 20000);
        checks.outOfRange("a 21st", () -> pay.come(0, 20, 0, 1, 0));
        checks.same("twenty count", pay.acknowledged(0), 20);
    }

    private static void sheetsOfWeeksToCome(Checks checks) {
        CrewPay pay = withPot(10000);
        pay.come(0, 0, 1, 5, 0);
        checks.same("it counts", pay.acknowledged(0), 1);
        checks.same("it is due", pay.due(0, 1), 5);
        checks.same("but not this week", pay.close(), 0);
        pay.correct(0, 0, 4, 0);
        checks.same("corrected ahead of its week", pay.close(), 1);
        checks.same("it is paid as corrected", pay.slip(0, 1, GROSS), 4);
        checks.same("and nothing is taken back", pay.toTakeBack(0), 0);
        checks.same("no slip of the week of now", pay.slip(0, 2, GROSS), 0);
    }

    private static void afterTheLastWeek(Checks checks) {
        CrewPay pay = withPot(10000);
        pay.come(0, 0, 30, 0, 1);
        for (int week = 0; week < 30; week++) {
            pay.close();
        }
        checks.same("the week 30 is closed", pay.close(), 1);
        checks.same("its slip", pay.slip(0, 30, GROSS), 100);
        checks.same("sheets come", pay.come(0, 1, 30, 3, 0), 2);
        checks.same("are due", pay.due(0, 30), 103);
        checks.same("are claimed", pay.claim(0), 3);
        checks.same("by slips too", pay.claimBySlips(0), 3);
        checks.same("are corrected", pay.correct(0, 1, 4, 0), 3);
        checks.same("rules are told", pay.setRates(0, 30, 2, 100), 1);
        checks.same("and hold", pay.claim(0), 8);
        checks.same("workers come", pay.addWorker(0), 1);
        checks.same("orders come", pay.order(1, 0, 1, 1), 0);
        checks.same("transfers come", pay.fill(0, 1), 1);
        checks.same("and bounce", pay.bounce(0), 99);
        checks.notNow("but no week is closed", pay::close);
        checks.same("the claim is as it was", pay.claim(0), 8);
        checks.same("the pot too", pay.pot(0), 0);
        checks.same("and the week", pay.week(), 31);
    }

    /** All that may be told, at its most: no sum wraps around. */
    private static void largestSums(Checks checks) {
        CrewPay pay = new CrewPay();
        long owed = 0;
        for (int transfer = 0; transfer < 40; transfer++) {
            pay.fill(0, 10000000);
        }
        checks.same("the fullest pot", pay.pot(0), 400000000);
        pay.addWorker(0);
        pay.setRates(0, 0, 10000, 10000);
        for (int sheet = 0; sheet < 20; sheet++) {
            pay.come(0, sheet, 0, 100, 100);
        }
        checks.same("the largest claim", pay.claim(0), 40000000);
        int closes = 0;
        long pot = 400000000;
        while (pot >= 40000000 && closes < 30) {
            long back = Math.min(owed, 4000000);
            checks.same("the largest slip", pay.close(), 1);
            checks.same("its tenth", (long) pay.slip(0, closes, TAKEN_BACK), back);
            pay.setRates(0, 0, 0, 0);
            checks.same("the lowest claim", pay.claim(0), -40000000);
            pay.close();
            pay.setRates(0, 0, 10000, 10000);
            pot += back - 40000000;
            owed += 40000000 - back;
            closes += 2;
            checks.same("all that is owed", (long) pay.toTakeBack(0), owed);
            checks.same("what is in the pot", (long) pay.pot(0), pot);
            checks.same("the claim is back", pay.claim(0), 40000000);
            checks.same("by slips", pay.claimBySlips(0), 40000000);
        }
        checks.same("ten such slips", closes, 20);
        checks.same("the eleventh waits", pay.close(), 0);
        int shortage = 0;
        for (int transfer = 0; transfer < 40; transfer++) {
            shortage = pay.bounce(transfer);
        }
        checks.same("all have bounced", (long) shortage, 400000000 - pot);
        checks.same("nothing is in the pot", pay.pot(0), 0);
    }
}
