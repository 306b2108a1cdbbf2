/** Promises 9 to 11: order, left, setFloor; and how close garnishes for them. */
final class OrdersTest {
    static void run(Checks checks) {
        order(checks);
        orderWrong(checks);
        left(checks);
        setFloor(checks);
        byClassesThenAsTheyCame(checks);
        atMostLeftPartAndAboveFloor(checks);
        floorAgainstWhatIsTakenBack(checks);
    }

    private static CrewPay withWorkers() {
        CrewPay pay = new CrewPay();
        pay.addWorker(0);
        pay.addWorker(0);
        return pay;
    }

    private static void order(Checks checks) {
        CrewPay pay = withWorkers();
        for (int number = 0; number < 20; number++) {
            checks.same("number of all workers", pay.order(number % 2, number % 3, 1, 1), number);
        }
        checks.notNow("a 21st order", () -> pay.order(0, 0, 1, 1));
        checks.noSuch("worker ahead of too many", () -> pay.order(2, 0, 1, 1));
        checks.outOfRange("range ahead of too many", () -> pay.order(0, 3, 1, 1));
        checks.same("the last is there", pay.left(19), 1);
        checks.noSuch("the 21st is not", () -> pay.left(20));
        pay.setFloor(0);
        pay.fill(0, 100000);
        pay.come(0, 0, 0, 50, 0);
        pay.close();
        checks.same("paid off", pay.left(0), 0);
        checks.notNow("orders that are paid off stay", () -> pay.order(0, 0, 1, 1));
    }

    private static void orderWrong(Checks checks) {
        CrewPay pay = withWorkers();
        checks.noSuch("worker -1", () -> pay.order(-1, 0, 1, 1));
        checks.noSuch("worker 2", () -> pay.order(2, 0, 1, 1));
        checks.noSuch("worker ahead of the rest", () -> pay.order(2, 3, 0, 0));
        checks.outOfRange("grade -1", () -> pay.order(0, -1, 1, 1));
        checks.outOfRange("grade 3", () -> pay.order(0, 3, 1, 1));
        checks.outOfRange("amount 0", () -> pay.order(0, 0, 0, 1));
        checks.outOfRange("amount 10000001", () -> pay.order(0, 0, 10000001, 1));
        checks.outOfRange("part 0", () -> pay.order(0, 0, 1, 0));
        checks.outOfRange("part 1000001", () -> pay.order(0, 0, 1, 1000001));
        checks.same("none was taken", pay.order(0, 2, 10000000, 1000000), 0);
        checks.same("the most of both", pay.left(0), 10000000);
    }

    private static void left(Checks checks) {
        CrewPay pay = withWorkers();
        pay.order(0, 0, 900, 400);
        pay.fill(0, 1000000);
        pay.setFloor(0);
        checks.same("all", pay.left(0), 900);
        int[] after = {500, 100, 0, 0};
        for (int week = 0; week < after.length; week++) {
            pay.come(0, week, week, 10, 0);
            pay.close();
            checks.same("left after week " + week, pay.left(0), after[week]);
        }
        checks.same("the last part is what was left", pay.slip(0, 2, CrewPay.GARNISHED), 100);
        checks.same("nothing for nothing", pay.slip(0, 3, CrewPay.GARNISHED), 0);
        checks.noSuch("order -1", () -> pay.left(-1));
        checks.noSuch("order 1", () -> pay.left(1));
        checks.noSuch("order 20", () -> pay.left(20));
    }

    private static void setFloor(Checks checks) {
        CrewPay pay = withWorkers();
        checks.same("the first floor", pay.setFloor(0), 20000);
        checks.same("before: 0", pay.setFloor(10000000), 0);
        checks.outOfRange("floor -1", () -> pay.setFloor(-1));
        checks.outOfRange("floor 10000001", () -> pay.setFloor(10000001));
        checks.same("before: the most", pay.setFloor(7), 10000000);
        checks.same("before: 7", pay.setFloor(7), 7);
        CrewPay first = withWorkers();
        first.order(0, 0, 1000, 1000);
        first.fill(0, 1000000);
        first.come(0, 0, 0, 20, 0);
        first.close();
        checks.same("20000 is not above the first floor", first.left(0), 1000);
        first.come(0, 1, 1, 19, 1);
        first.close();
        checks.same("500 is", first.left(0), 500);
        first.setFloor(10000000);
        first.come(0, 2, 2, 100, 100);
        first.close();
        checks.same("far below the floor", first.slip(0, 2, CrewPay.GARNISHED), 0);
        checks.same("all is paid out", first.slip(0, 2, CrewPay.PAID_OUT), 250000);
    }

    private static void byClassesThenAsTheyCame(Checks checks) {
        CrewPay pay = withWorkers();
        pay.setFloor(0);
        pay.fill(0, 1000000);
        pay.order(0, 2, 500, 500);
        pay.order(0, 1, 500, 500);
        pay.order(1, 0, 500, 500);
        pay.order(0, 0, 500, 500);
        pay.order(0, 1, 500, 500);
        pay.order(0, 0, 500, 500);
        int[][] after = {{500, 500, 500, 0, 500, 500}, {500, 500, 500, 0, 500, 0},
            {500, 0, 500, 0, 500, 0}, {500, 0, 500, 0, 0, 0}, {0, 0, 500, 0, 0, 0}};
        pay.setRates(0, 0, 500, 0);
        for (int week = 0; week < after.length; week++) {
            pay.come(0, week, week, 1, 0);
            pay.close();
            for (int order = 0; order < 6; order++) {
                checks.same("week " + week + ", order " + order, pay.left(order), after[week][order]);
            }
        }
    }

    private static void atMostLeftPartAndAboveFloor(Checks checks) {
        CrewPay pay = withWorkers();
        pay.setFloor(1000);
        pay.fill(0, 1000000);
        pay.order(0, 0, 300, 1000);
        pay.order(0, 0, 1000, 400);
        pay.order(0, 1, 5000, 5000);
        pay.order(0, 2, 5000, 5000);
        pay.come(0, 0, 0, 2, 0);
        pay.close();
        checks.same("all of a small order", pay.left(0), 0);
        checks.same("the part of a large one", pay.left(1), 600);
        checks.same("what is left above the floor", pay.left(2), 4700);
        checks.same("nothing for the last", pay.left(3), 5000);
        checks.same("garnished", pay.slip(0, 0, CrewPay.GARNISHED), 1000);
        checks.same("the floor is left", pay.slip(0, 0, CrewPay.PAID_OUT), 1000);
    }

    private static void floorAgainstWhatIsTakenBack(Checks checks) {
        CrewPay pay = withWorkers();
        pay.setFloor(8000);
        pay.fill(0, 1000000);
        pay.come(0, 0, 0, 50, 0);
        pay.close();
        pay.correct(0, 0, 0, 0);
        pay.close();
        checks.same("to take back", pay.toTakeBack(0), 50000);
        pay.order(0, 0, 100000, 100000);
        pay.come(0, 1, 2, 10, 0);
        pay.close();
        checks.same("a tenth is taken back first", pay.slip(0, 2, CrewPay.TAKEN_BACK), 1000);
        checks.same("of what is left, what is above", pay.slip(0, 2, CrewPay.GARNISHED), 1000);
        checks.same("the floor is left whole", pay.slip(0, 2, CrewPay.PAID_OUT), 8000);
        pay.come(0, 2, 3, 8, 0);
        pay.close();
        checks.same("below the floor after taking back", pay.slip(0, 3, CrewPay.PAID_OUT), 7200);
        checks.same("no order gets something", pay.slip(0, 3, CrewPay.GARNISHED), 0);
        checks.same("and none grows", pay.left(0), 99000);
    }
}
