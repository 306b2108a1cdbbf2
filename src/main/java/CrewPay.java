/**
 * Pay of crews, worked out from time sheets that come late, twice and out of order.
 *
 * All amounts are cents. The dearest run stays far inside an int: a worker is due at most
 * 20 sheets * 200 hours * 10000 cents, and a pot holds at most 40 transfers * 10000000 cents.
 */
public final class CrewPay {
    /** There is none. */
    public static final int NONE = -1;

    /** Parts of slips: all, taken back, garnished, paid out. */
    public static final int GROSS = 0, TAKEN_BACK = 1, GARNISHED = 2, PAID_OUT = 3;

    private static final int EMPLOYERS = 3;
    private static final int RANKS = 3;
    private static final int GRADES = 3;
    private static final int WEEKS = 31;
    private static final int MOST_WORKERS = 8;
    private static final int MOST_SHEETS = 20;
    private static final int MOST_ORDERS = 20;
    private static final int MOST_TRANSFERS = 40;
    private static final int MOST_HOURS = 100;
    private static final int MOST_RATE = 10000;
    private static final int MOST_CENTS = 10000000;
    private static final int MOST_PART = 1000000;
    private static final int FIRST_RANK = 0;
    private static final int FIRST_DAY_RATE = 1000;
    private static final int FIRST_NIGHT_RATE = 1500;
    private static final int FIRST_FLOOR = 20000;
    /** At most the gross divided by this is taken back by one slip. */
    private static final int TAKE_BACK_DIVISOR = 10;

    private final Pot[] pots = new Pot[EMPLOYERS];
    private final Rates[] ratesByRank = new Rates[RANKS];
    private final Worker[] workers = new Worker[MOST_WORKERS];
    private final Order[] orders = new Order[MOST_ORDERS];
    private final Transfer[] transfers = new Transfer[MOST_TRANSFERS];
    private int workerCount = 0;
    private int orderCount = 0;
    private int transferCount = 0;
    private int floor = FIRST_FLOOR;
    private int weekOfNow = 0;

    public CrewPay() {
        for (int i = 0; i < pots.length; i++) {
            pots[i] = new Pot();
        }
        for (int i = 0; i < ratesByRank.length; i++) {
            ratesByRank[i] = new Rates();
        }
    }

    // ---- workers and rules

    public int addWorker(int employer) throws IndexOutOfBoundsException, IllegalStateException {
        Pot pot = potOf(employer);
        if (workerCount < 0 || workerCount >= workers.length) {
            throw new IllegalStateException("no more workers");
        }
        workers[workerCount] = new Worker(pot);
        return workerCount++;
    }

    public int setRank(int worker, int week, int rank)
            throws IndexOutOfBoundsException, IllegalArgumentException {
        Worker of = workerOf(worker);
        ratesOf(rank);
        checkWeek(week);
        int before = of.rank.inWeek(week);
        of.rank.tell(week, rank);
        return before;
    }

    public int setRates(int rank, int week, int day, int night)
            throws IndexOutOfBoundsException, IllegalArgumentException {
        Rates rates = ratesOf(rank);
        checkWeek(week);
        checkRange(day, 0, MOST_RATE);
        checkRange(night, 0, MOST_RATE);
        int before = rates.day.inWeek(week);
        rates.day.tell(week, day);
        rates.night.tell(week, night);
        return before;
    }

    // ---- sheets

    public int come(int worker, int sheet, int week, int day, int night)
            throws IndexOutOfBoundsException, IllegalArgumentException {
        Worker of = workerOf(worker);
        checkRange(sheet, 0, MOST_SHEETS - 1);
        checkWeek(week);
        checkHours(day, night);
        if (of.sheet(sheet) == null) {
            of.take(sheet, new Sheet(week, day, night));
        }
        return of.counting;
    }

    public int correct(int worker, int sheet, int day, int night)
            throws IndexOutOfBoundsException, IllegalArgumentException {
        Sheet corrected = workerOf(worker).sheet(sheet);
        if (corrected == null) {
            throw new IndexOutOfBoundsException("no such sheet has come");
        }
        checkHours(day, night);
        int before = corrected.day + corrected.night;
        corrected.day = day;
        corrected.night = night;
        return before;
    }

    public int acknowledged(int worker) throws IndexOutOfBoundsException {
        return workerOf(worker).counting;
    }

    public int due(int worker, int week) throws IndexOutOfBoundsException, IllegalArgumentException {
        Worker of = workerOf(worker);
        checkWeek(week);
        return dueBetween(of, week, week);
    }

    // ---- orders and pots

    public int order(int worker, int grade, int amount, int part)
            throws IndexOutOfBoundsException, IllegalArgumentException, IllegalStateException {
        Worker of = workerOf(worker);
        checkRange(grade, 0, GRADES - 1);
        checkRange(amount, 1, MOST_CENTS);
        checkRange(part, 1, MOST_PART);
        if (orderCount < 0 || orderCount >= orders.length) {
            throw new IllegalStateException("no more orders");
        }
        orders[orderCount] = new Order(of, grade, amount, part);
        return orderCount++;
    }

    public int left(int order) throws IndexOutOfBoundsException {
        Order found = order >= 0 && order < orders.length ? orders[order] : null;
        if (found == null) {
            throw new IndexOutOfBoundsException("no such order");
        }
        return found.left;
    }

    public int setFloor(int floor) throws IllegalArgumentException {
        checkRange(floor, 0, MOST_CENTS);
        int before = this.floor;
        this.floor = floor;
        return before;
    }

    public int fill(int employer, int amount)
            throws IndexOutOfBoundsException, IllegalArgumentException, IllegalStateException {
        Pot pot = potOf(employer);
        checkRange(amount, 1, MOST_CENTS);
        if (transferCount < 0 || transferCount >= transfers.length) {
            throw new IllegalStateException("no more transfers");
        }
        transfers[transferCount] = new Transfer(pot, amount);
        pot.receive(amount);
        return transferCount++;
    }

    public int bounce(int transfer) throws IndexOutOfBoundsException, IllegalStateException {
        Transfer found = transfer >= 0 && transfer < transfers.length ? transfers[transfer] : null;
        if (found == null) {
            throw new IndexOutOfBoundsException("no such transfer");
        }
        if (found.bounced) {
            throw new IllegalStateException("the transfer has bounced");
        }
        found.bounced = true;
        found.pot.lose(found.amount);
        return found.pot.shortage;
    }

    public int pot(int employer) throws IndexOutOfBoundsException {
        return potOf(employer).cents;
    }

    public int shortage(int employer) throws IndexOutOfBoundsException {
        return potOf(employer).shortage;
    }

    // ---- paying

    public int close() throws IllegalStateException {
        if (weekOfNow >= WEEKS) {
            throw new IllegalStateException("all weeks are closed");
        }
        int paid = 0;
        for (Worker worker : workers) {
            if (worker != null && settle(worker)) {
                paid++;
            }
        }
        weekOfNow++;
        return paid;
    }

    public int week() {
        return weekOfNow;
    }

    public int slip(int worker, int week, int part)
            throws IndexOutOfBoundsException, IllegalArgumentException {
        Worker of = workerOf(worker);
        checkWeek(week);
        checkRange(part, GROSS, PAID_OUT);
        return of.slipPart(week, part);
    }

    public int toTakeBack(int worker) throws IndexOutOfBoundsException {
        return workerOf(worker).toTakeBack;
    }

    public int claim(int worker) throws IndexOutOfBoundsException {
        return claimOf(workerOf(worker));
    }

    public int claimBySlips(int worker) throws IndexOutOfBoundsException {
        Worker of = workerOf(worker);
        int claim = dueBetween(of, 0, weekOfNow) + of.everToTakeBack;
        for (int week = 0; week < WEEKS; week++) {
            claim -= of.slipPart(week, GROSS);
        }
        return claim;
    }

    // ---- numbers that callers give

    private Worker workerOf(int worker) {
        Worker found = worker >= 0 && worker < workers.length ? workers[worker] : null;
        if (found == null) {
            throw new IndexOutOfBoundsException("no such worker");
        }
        return found;
    }

    private Pot potOf(int employer) {
        Pot found = employer >= 0 && employer < pots.length ? pots[employer] : null;
        if (found == null) {
            throw new IndexOutOfBoundsException("no such employer");
        }
        return found;
    }

    private Rates ratesOf(int rank) {
        Rates found = ratesOrNull(rank);
        if (found == null) {
            throw new IndexOutOfBoundsException("no such rank");
        }
        return found;
    }

    private Rates ratesOrNull(int rank) {
        return rank >= 0 && rank < ratesByRank.length ? ratesByRank[rank] : null;
    }

    private static void checkWeek(int week) {
        checkRange(week, 0, WEEKS - 1);
    }

    private static void checkHours(int day, int night) {
        checkRange(day, 0, MOST_HOURS);
        checkRange(night, 0, MOST_HOURS);
    }

    private static void checkRange(int value, int least, int most) {
        if (value < least || value > most) {
            throw new IllegalArgumentException("an argument is out of range");
        }
    }

    // ---- what is due, and how it is paid

    /** What the worker is due for the weeks first to last, both among them. */
    private int dueBetween(Worker worker, int first, int last) {
        int sum = 0;
        for (int i = 0; i < worker.counting; i++) {
            Sheet sheet = worker.sheet(i);
            if (sheet != null && sheet.week >= first && sheet.week <= last) {
                sum += payFor(sheet, ratesOrNull(worker.rank.inWeek(sheet.week)));
            }
        }
        return sum;
    }

    private static int payFor(Sheet sheet, Rates rates) {
        if (rates == null) {
            return 0;
        }
        return sheet.day * rates.day.inWeek(sheet.week)
                + sheet.night * rates.night.inWeek(sheet.week);
    }

    private int claimOf(Worker worker) {
        return dueBetween(worker, 0, weekOfNow) - worker.reckoned;
    }

    /** Settles the worker's claim in the week of now; tells whether there is a slip of it. */
    private boolean settle(Worker worker) {
        int claim = claimOf(worker);
        if (claim < 0) {
            worker.owe(-claim);
            return false;
        }
        if (claim == 0 || worker.pot.cents < claim) {
            return false;
        }
        pay(worker, claim);
        return true;
    }

    private void pay(Worker worker, int gross) {
        worker.pot.cents -= gross;
        worker.reckoned += gross;
        int takenBack = Math.min(worker.toTakeBack, gross / TAKE_BACK_DIVISOR);
        worker.toTakeBack -= takenBack;
        // Straight into the pot: what is taken back pays off no shortage, as a transfer would.
        worker.pot.cents += takenBack;
        int rest = gross - takenBack;
        int garnished = garnish(worker, rest - floor);
        worker.keepSlip(weekOfNow, new Slip(gross, takenBack, garnished, rest - garnished));
    }

    /** Pays the worker's orders from what is above the floor; answers what they get together. */
    private int garnish(Worker worker, int aboveFloor) {
        int garnished = 0;
        for (int grade = 0; grade < GRADES; grade++) {
            for (Order order : orders) {
                if (order != null && order.worker == worker && order.grade == grade) {
                    garnished += order.payOff(aboveFloor - garnished);
                }
            }
        }
        return garnished;
    }

    // ---- what the state is made of

    /** A value that goes from some week on until another one is told. */
    private static final class Rule {
        private final int[] values = new int[WEEKS];
        private final boolean[] told = new boolean[WEEKS];

        Rule(int first) {
            for (int week = 0; week < values.length; week++) {
                values[week] = first;
            }
        }

        int inWeek(int week) {
            return week >= 0 && week < values.length ? values[week] : NONE;
        }

        void tell(int week, int value) {
            if (week < 0 || week >= values.length || week >= told.length) {
                return;
            }
            told[week] = true;
            values[week] = value;
            for (int later = week + 1; later < values.length && later < told.length; later++) {
                if (told[later]) {
                    return;
                }
                values[later] = value;
            }
        }
    }

    private static final class Rates {
        final Rule day = new Rule(FIRST_DAY_RATE);
        final Rule night = new Rule(FIRST_NIGHT_RATE);
    }

    private static final class Sheet {
        final int week;
        int day;
        int night;

        Sheet(int week, int day, int night) {
            this.week = week;
            this.day = day;
            this.night = night;
        }
    }

    private static final class Slip {
        private final int gross;
        private final int takenBack;
        private final int garnished;
        private final int paidOut;

        Slip(int gross, int takenBack, int garnished, int paidOut) {
            this.gross = gross;
            this.takenBack = takenBack;
            this.garnished = garnished;
            this.paidOut = paidOut;
        }

        int part(int part) {
            switch (part) {
                case GROSS:
                    return gross;
                case TAKEN_BACK:
                    return takenBack;
                case GARNISHED:
                    return garnished;
                case PAID_OUT:
                    return paidOut;
                default:
                    return 0;
            }
        }
    }

    private static final class Pot {
        int cents = 0;
        int shortage = 0;

        void receive(int amount) {
            int paidOff = Math.min(shortage, amount);
            shortage -= paidOff;
            cents += amount - paidOff;
        }

        void lose(int amount) {
            int taken = Math.min(cents, amount);
            cents -= taken;
            shortage += amount - taken;
        }
    }

    private static final class Transfer {
        final Pot pot;
        final int amount;
        boolean bounced = false;

        Transfer(Pot pot, int amount) {
            this.pot = pot;
            this.amount = amount;
        }
    }

    /** An order of a creditor against a worker. */
    private static final class Order {
        final Worker worker;
        final int grade;
        int left;
        private final int mostOfSlip;

        Order(Worker worker, int grade, int amount, int mostOfSlip) {
            this.worker = worker;
            this.grade = grade;
            this.left = amount;
            this.mostOfSlip = mostOfSlip;
        }

        /** Pays off what this order may get when so much is there, which may be below 0. */
        int payOff(int there) {
            int paid = Math.max(0, Math.min(there, Math.min(left, mostOfSlip)));
            left -= paid;
            return paid;
        }
    }

    private static final class Worker {
        final Pot pot;
        final Rule rank = new Rule(FIRST_RANK);
        /** How many sheets count: all from 0 on that have come without a gap. */
        int counting = 0;
        int reckoned = 0;
        int toTakeBack = 0;
        /** All that was ever added to what is to be taken back. */
        int everToTakeBack = 0;
        private final Sheet[] sheets = new Sheet[MOST_SHEETS];
        private final Slip[] slips = new Slip[WEEKS];

        Worker(Pot pot) {
            this.pot = pot;
        }

        /** The sheet of this number, or null if none has come. */
        Sheet sheet(int number) {
            return number >= 0 && number < sheets.length ? sheets[number] : null;
        }

        void take(int number, Sheet sheet) {
            if (number >= 0 && number < sheets.length) {
                sheets[number] = sheet;
            }
            while (counting < sheets.length && sheet(counting) != null) {
                counting++;
            }
        }

        void owe(int amount) {
            toTakeBack += amount;
            everToTakeBack += amount;
            reckoned -= amount;
        }

        void keepSlip(int week, Slip slip) {
            if (week >= 0 && week < slips.length) {
                slips[week] = slip;
            }
        }

        int slipPart(int week, int part) {
            Slip slip = week >= 0 && week < slips.length ? slips[week] : null;
            return slip == null ? 0 : slip.part(part);
        }
    }
}
