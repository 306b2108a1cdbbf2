/** Promises 12 to 15: fill, bounce, pot, shortage. */
final class PotsTest {
    static void run(Checks checks) {
        fill(checks);
        fillWrong(checks);
        bounce(checks);
        bounceWrong(checks);
        fillPaysOffShortage(checks);
        bouncedWholeThoughItPaidOff(checks);
        potsWrong(checks);
    }

    /** An object whose employer 0 has an empty pot and a worker who got the cents. */
    private static CrewPay spent(int hours) {
        CrewPay pay = new CrewPay();
        pay.addWorker(0);
        pay.come(0, 0, 0, hours, 0);
        pay.fill(0, hours * 1000);
        pay.close();
        return pay;
    }

    private static void fill(Checks checks) {
        CrewPay pay = new CrewPay();
        checks.same("the first transfer", pay.fill(0, 1), 0);
        checks.same("the second", pay.fill(2, 10000000), 1);
        checks.same("the third", pay.fill(0, 10), 2);
        checks.same("pot 0", pay.pot(0), 11);
        checks.same("pot 1", pay.pot(1), 0);
        checks.same("pot 2", pay.pot(2), 10000000);
        for (int number = 3; number < 40; number++) {
            checks.same("number", pay.fill(1, 10000000), number);
        }
        checks.same("pot 1 is full", pay.pot(1), 370000000);
        checks.notNow("a 41st", () -> pay.fill(0, 1));
        checks.noSuch("employer ahead of too many", () -> pay.fill(3, 1));
        checks.outOfRange("range ahead of too many", () -> pay.fill(0, 0));
        pay.bounce(0);
        checks.notNow("bounced ones count", () -> pay.fill(0, 1));
        checks.same("pot 0 got no more", pay.pot(0), 10);
    }

    private static void fillWrong(Checks checks) {
        CrewPay pay = new CrewPay();
        checks.noSuch("employer -1", () -> pay.fill(-1, 1));
        checks.noSuch("employer 3", () -> pay.fill(3, 1));
        checks.noSuch("employer ahead of amount", () -> pay.fill(3, 0));
        checks.outOfRange("amount 0", () -> pay.fill(0, 0));
        checks.outOfRange("amount -1", () -> pay.fill(0, -1));
        checks.outOfRange("amount 10000001", () -> pay.fill(0, 10000001));
        checks.same("the pot is empty", pay.pot(0), 0);
        checks.same("no number was used", pay.fill(0, 1), 0);
    }

    private static void bounce(Checks checks) {
        CrewPay pay = new CrewPay();
        pay.fill(0, 100);
        pay.fill(1, 30);
        checks.same("all is there", pay.bounce(0), 0);
        checks.same("all is taken", pay.pot(0), 0);
        checks.same("another pot stays", pay.pot(1), 30);
        CrewPay spent = spent(2);
        spent.fill(0, 500);
        checks.same("the rest is short", spent.bounce(0), 1500);
        checks.same("the pot is empty", spent.pot(0), 0);
        checks.same("the shortage", spent.shortage(0), 1500);
        checks.same("added to the shortage", spent.bounce(1), 2000);
        checks.same("no other's shortage", spent.shortage(1), 0);
        checks.same("what was paid stays paid", spent.slip(0, 0, CrewPay.PAID_OUT), 2000);
        checks.same("and no claim comes of it", spent.claim(0), 0);
    }

    private static void bounceWrong(Checks checks) {
        CrewPay pay = new CrewPay();
        checks.noSuch("none yet", () -> pay.bounce(0));
        pay.fill(0, 100);
        pay.fill(0, 1000);
        checks.noSuch("transfer -1", () -> pay.bounce(-1));
        checks.noSuch("transfer 2", () -> pay.bounce(2));
        checks.noSuch("transfer 40", () -> pay.bounce(40));
        pay.bounce(0);
        checks.notNow("bounces once", () -> pay.bounce(0));
        checks.same("the second try took nothing", pay.pot(0), 1000);
        checks.same("the other can bounce", pay.bounce(1), 0);
        checks.notNow("and once too", () -> pay.bounce(1));
        checks.same("no shortage by it", pay.shortage(0), 0);
    }

    private static void fillPaysOffShortage(Checks checks) {
        CrewPay pay = spent(1);
        pay.bounce(0);
        pay.fill(0, 400);
        checks.same("a part is paid off", pay.shortage(0), 600);
        checks.same("nothing gets in", pay.pot(0), 0);
        pay.fill(1, 5000);
        checks.same("another's transfer pays off nothing", pay.shortage(0), 600);
        pay.fill(0, 600);
        checks.same("just paid off", pay.shortage(0), 0);
        checks.same("nothing is over", pay.pot(0), 0);
        pay.fill(0, 7);
        checks.same("then it fills", pay.pot(0), 7);
        CrewPay over = spent(1);
        over.bounce(0);
        over.fill(0, 1001);
        checks.same("paid off at once", over.shortage(0), 0);
        checks.same("the rest fills", over.pot(0), 1);
    }

    private static void bouncedWholeThoughItPaidOff(Checks checks) {
        CrewPay pay = spent(1);
        pay.bounce(0);
        pay.fill(0, 1500);
        checks.same("500 are over", pay.pot(0), 500);
        checks.same("the shortage is back", pay.bounce(1), 1000);
        checks.same("the pot is empty", pay.pot(0), 0);
    }

    private static void potsWrong(Checks checks) {
        CrewPay pay = new CrewPay();
        for (int employer : new int[] {-1, 3, Integer.MIN_VALUE, Integer.MAX_VALUE}) {
            checks.noSuch("pot " + employer, () -> pay.pot(employer));
            checks.noSuch("shortage " + employer, () -> pay.shortage(employer));
        }
    }
}
