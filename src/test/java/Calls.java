/** Calls of the face by their names, for tests that choose calls from tables. */
final class Calls {
    static int call(CrewPay pay, String name, int... x) {
        switch (name) {
            case "addWorker": return pay.addWorker(x[0]);
            case "setRank": return pay.setRank(x[0], x[1], x[2]);
            case "setRates": return pay.setRates(x[0], x[1], x[2], x[3]);
            case "come": return pay.come(x[0], x[1], x[2], x[3], x[4]);
            case "correct": return pay.correct(x[0], x[1], x[2], x[3]);
            case "acknowledged": return pay.acknowledged(x[0]);
            case "due": return pay.due(x[0], x[1]);
            case "order": return pay.order(x[0], x[1], x[2], x[3]);
            case "left": return pay.left(x[0]);
            case "setFloor": return pay.setFloor(x[0]);
            case "fill": return pay.fill(x[0], x[1]);
            case "bounce": return pay.bounce(x[0]);
            case "pot": return pay.pot(x[0]);
            case "shortage": return pay.shortage(x[0]);
            case "close": return pay.close();
            case "week": return pay.week();
            case "slip": return pay.slip(x[0], x[1], x[2]);
            case "toTakeBack": return pay.toTakeBack(x[0]);
            case "claim": return pay.claim(x[0]);
            case "claimBySlips": return pay.claimBySlips(x[0]);
            default: throw new AssertionError(name);
        }
    }
}
