/** The example of README.md, call by call: what stands there behind // is what is answered. */
final class ReadmeTest {
    static void run(Checks checks) {
        CrewPay pay = new CrewPay();
        int worker = pay.addWorker(0);
        pay.fill(0, 100000);
        pay.come(worker, 0, 0, 40, 0);
        int order = pay.order(worker, 0, 30000, 5000);
        checks.same("README: who gets a slip", pay.close(), 1);
        checks.same("README: gross", pay.slip(worker, 0, CrewPay.GROSS), 40000);
        checks.same("README: garnished", pay.slip(worker, 0, CrewPay.GARNISHED), 5000);
        checks.same("README: paid out", pay.slip(worker, 0, CrewPay.PAID_OUT), 35000);
        checks.same("README: left of the order", pay.left(order), 25000);
        checks.same("README: in the pot", pay.pot(0), 60000);

        checks.same("README: hours before", pay.correct(worker, 0, 30, 0), 40);
        checks.same("README: the claim", pay.claim(worker), -10000);
        checks.same("README: nobody gets a slip", pay.close(), 0);
        checks.same("README: to take back", pay.toTakeBack(worker), 10000);

        checks.same("README: the acknowledgment", pay.come(worker, 2, 2, 20, 0), 1);
        checks.same("README: the gap closes", pay.come(worker, 1, 2, 0, 20), 3);
        checks.same("README: one slip", pay.close(), 1);
        checks.same("README: taken back", pay.slip(worker, 2, CrewPay.TAKEN_BACK), 5000);
        checks.same("README: paid out then", pay.slip(worker, 2, CrewPay.PAID_OUT), 40000);
        checks.same("README: the shortage", pay.bounce(0), 85000);
    }
}
