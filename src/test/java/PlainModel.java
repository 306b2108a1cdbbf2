import java.util.ArrayList;
import java.util.List;
import java.util.Map;
import java.util.TreeMap;

/**
 * The document again, written to be compared with: all rules kept as they were told and looked
 * up anew, all sums from all that ever was paid, in maps and lists of the Java library.
 */
final class PlainModel {
    private final long[] pots = new long[3];
    private final long[] shortages = new long[3];
    private final List<Integer> employers = new ArrayList<>();
    private final Map<String, TreeMap<Integer, Integer>> rules = new TreeMap<>();
    private final List<TreeMap<Integer, int[]>> sheets = new ArrayList<>();
    private final List<TreeMap<Integer, long[]>> slips = new ArrayList<>();
    private final List<List<Long>> added = new ArrayList<>();
    private final List<long[]> orders = new ArrayList<>();
    private final List<int[]> transfers = new ArrayList<>();
    private long floor = 20000;
    private int week = 0;

    private static void need(boolean there) {
        if (!there) {
            throw new IndexOutOfBoundsException();
        }
    }

    private static void in(long value, long least, long most) {
        if (value < least || value > most) {
            throw new IllegalArgumentException();
        }
    }

    private static void may(boolean allowed) {
        if (!allowed) {
            throw new IllegalStateException();
        }
    }

    private void needWorker(int worker) {
        need(worker >= 0 && worker < employers.size());
    }

    private static void needThree(int number) {
        need(number >= 0 && number <= 2);
    }

    private int inForce(String rule, int at, int first) {
        Map.Entry<Integer, Integer> told = rules.getOrDefault(rule, new TreeMap<>()).floorEntry(at);
        return told == null ? first : told.getValue();
    }

    private void tell(String rule, int from, int value) {
        rules.computeIfAbsent(rule, key -> new TreeMap<>()).put(from, value);
    }

    /** Answers the named call of the face. */
    long call(String name, int a, int b, int c, int d, int e) {
        switch (name) {
            case "addWorker": return addWorker(a);
            case "setRank": return setRank(a, b, c);
            case "setRates": return setRates(a, b, c, d);
            case "come": return come(a, b, c, d, e);
            case "correct": return correct(a, b, c, d);
            case "acknowledged": needWorker(a); return counting(a);
            case "due": needWorker(a); in(b, 0, 30); return due(a, b, b);
            case "order": return order(a, b, c, d);
            case "left": need(a >= 0 && a < orders.size()); return orders.get(a)[2];
            case "setFloor": return setFloor(a);
            case "fill": return fill(a, b);
            case "bounce": return bounce(a);
            case "pot": needThree(a); return pots[a];
            case "shortage": needThree(a); return shortages[a];
            case "close": return close();
            case "week": return week;
            case "slip": return slip(a, b, c);
            case "toTakeBack": needWorker(a); return toTakeBack(a);
            case "claim": case "claimBySlips": needWorker(a); return claim(a);
            default: throw new AssertionError(name);
        }
    }

    private long addWorker(int employer) {
        needThree(employer);
        may(employers.size() < 8);
        employers.add(employer);
        sheets.add(new TreeMap<>());
        slips.add(new TreeMap<>());
        added.add(new ArrayList<>());
        return employers.size() - 1;
    }

    private long setRank(int worker, int from, int rank) {
        needWorker(worker);
        needThree(rank);
        in(from, 0, 30);
        int before = inForce("rank" + worker, from, 0);
        tell("rank" + worker, from, rank);
        return before;
    }

    private long setRates(int rank, int from, int day, int night) {
        needThree(rank);
        in(from, 0, 30);
        in(day, 0, 10000);
        in(night, 0, 10000);
        int before = inForce("day" + rank, from, 1000);
        tell("day" + rank, from, day);
        tell("night" + rank, from, night);
        return before;
    }

    private long come(int worker, int sheet, int of, int day, int night) {
        needWorker(worker);
        in(sheet, 0, 19);
        in(of, 0, 30);
        in(day, 0, 100);
        in(night, 0, 100);
        sheets.get(worker).putIfAbsent(sheet, new int[] {of, day, night});
        return counting(worker);
    }

    private long correct(int worker, int sheet, int day, int night) {
        needWorker(worker);
        need(sheets.get(worker).containsKey(sheet));
        in(day, 0, 100);
        in(night, 0, 100);
        int[] old = sheets.get(worker).get(sheet);
        sheets.get(worker).put(sheet, new int[] {old[0], day, night});
        return old[1] + old[2];
    }

    private int counting(int worker) {
        int next = 0;
        for (int sheet : sheets.get(worker).keySet()) {
            next += sheet == next ? 1 : 0;
        }
        return next;
    }

    private long due(int worker, int first, int last) {
        long sum = 0;
        for (int[] sheet : sheets.get(worker).headMap(counting(worker)).values()) {
            int of = sheet[0];
            if (of >= first && of <= last) {
                int rank = inForce("rank" + worker, of, 0);
                sum += (long) sheet[1] * inForce("day" + rank, of, 1000);
                sum += (long) sheet[2] * inForce("night" + rank, of, 1500);
            }
        }
        return sum;
    }

    private long order(int worker, int grade, int amount, int part) {
        needWorker(worker);
        in(grade, 0, 2);
        in(amount, 1, 10000000);
        in(part, 1, 1000000);
        may(orders.size() < 20);
        orders.add(new long[] {worker, grade, amount, part});
        return orders.size() - 1;
    }

    private long setFloor(int to) {
        in(to, 0, 10000000);
        long before = floor;
        floor = to;
        return before;
    }

    private long fill(int employer, int amount) {
        needThree(employer);
        in(amount, 1, 10000000);
        may(transfers.size() < 40);
        transfers.add(new int[] {employer, amount, 0});
        long over = amount - shortages[employer];
        shortages[employer] = over < 0 ? -over : 0;
        pots[employer] += over > 0 ? over : 0;
        return transfers.size() - 1;
    }

    private long bounce(int number) {
        need(number >= 0 && number < transfers.size());
        int[] transfer = transfers.get(number);
        may(transfer[2] == 0);
        transfer[2] = 1;
        int employer = transfer[0];
        long after = pots[employer] - transfer[1];
        pots[employer] = after > 0 ? after : 0;
        shortages[employer] += after < 0 ? -after : 0;
        return shortages[employer];
    }

    private long close() {
        may(week <= 30);
        int paid = 0;
        for (int worker = 0; worker < employers.size(); worker++) {
            long claim = claim(worker);
            int employer = employers.get(worker);
            if (claim < 0) {
                added.get(worker).add(-claim);
            } else if (claim > 0 && pots[employer] >= claim) {
                long back = Math.min(toTakeBack(worker), claim / 10);
                pots[employer] += back - claim;
                long rest = garnish(worker, claim - back);
                slips.get(worker).put(week, new long[] {claim, back, claim - back - rest, rest});
                paid++;
            }
        }
        week++;
        return paid;
    }

    /** What the orders leave of the cents. */
    private long garnish(int worker, long cents) {
        long rest = cents;
        List<long[]> mine = new ArrayList<>(orders);
        mine.removeIf(order -> order[0] != worker);
        mine.sort((one, other) -> Long.compare(one[1], other[1]));
        for (long[] order : mine) {
            long most = Math.min(Math.min(order[2], order[3]), rest - floor);
            if (most > 0) {
                order[2] -= most;
                rest -= most;
            }
        }
        return rest;
    }

    private long slip(int worker, int of, int part) {
        needWorker(worker);
        in(of, 0, 30);
        in(part, 0, 3);
        return slips.get(worker).getOrDefault(of, new long[4])[part];
    }

    private long everAdded(int worker) {
        return added.get(worker).stream().mapToLong(Long::longValue).sum();
    }

    private long sumOfSlips(int worker, int part) {
        return slips.get(worker).values().stream().mapToLong(slip -> slip[part]).sum();
    }

    private long toTakeBack(int worker) {
        return everAdded(worker) - sumOfSlips(worker, 1);
    }

    private long claim(int worker) {
        return due(worker, 0, week) - sumOfSlips(worker, 0) + everAdded(worker);
    }
}
