/** GEARS AND CLUTCHES of the document: the ends of the gears, of the time, of the lag, of a change. */
public final class ChangeEdgesTest {
    private static final int[][] CLOSED = {{}, {0, 4}, {0, 3}, {0, 2}, {0, 1}, {1, 2}};

    public static void main(String[] args) {
        gearsEndAt1And5();
        clutchesAre0To4();
        aChangeLastsForTheTime();
        theTimeIs2To20();
        theLagIs0ToTheTimeLess1();
        theTimeIsGreaterThanTheLag();
        theClosingClutchWaitsForTheLag();
        theOpeningClutchDoesNotWait();
        theChangeIsOverWhenKIsN();
        theOtherClutchesInEachChange();
        theForceIsTheGreaterOne();
        theForceWithoutAChange();
        Checks.finish();
    }

    private static void gearsEndAt1And5() {
        ShiftMaps low = new ShiftMaps();
        Checks.due("none below 1", Checks.drive(low, 0, 1, 99), 0);
        Checks.due("gear 1", low.car(0), 1);
        low.byHand(true);
        Checks.due("none below 1 by hand", low.shift(false), ShiftMaps.NOT_POSSIBLE);
        ShiftMaps high = new ShiftMaps();
        Checks.due("up to 5", Checks.drive(high, 300, 0, 99), 4);
        Checks.due("none above 5", Checks.drive(high, 300, 0, 99), 0);
        Checks.due("gear 5", high.car(0), 5);
        high.byHand(true);
        Checks.drive(high, 0, 0, 1);
        Checks.due("none above 5 by hand", high.shift(true), ShiftMaps.NOT_POSSIBLE);
        Checks.due("gear 4 is there", high.shift(false), 4);
    }

    private static void clutchesAre0To4() {
        ShiftMaps car = new ShiftMaps();
        int[] wrong = {Integer.MIN_VALUE, -2, -1, 5, 6, Integer.MAX_VALUE};
        for (int clutch : wrong) {
            Checks.dueFloat("clutch " + clutch, car.pressed(clutch), Float.NaN);
        }
        Checks.drive(car, 20, 0, 1);
        for (int clutch : wrong) {
            Checks.dueFloat("clutch " + clutch + " in a change", car.pressed(clutch), Float.NaN);
        }
        Checks.dueFloat("clutch 0", car.pressed(0), 1f);
        Checks.dueFloat("clutch 4", car.pressed(4), 1f);
    }

    private static ShiftMaps carWith(int time, int lag) {
        ShiftMaps car = new ShiftMaps();
        car.setNumber(0, 20);
        car.setNumber(1, lag);
        car.setNumber(0, time);
        Checks.due("time", car.number(0), time);
        Checks.due("lag", car.number(1), lag);
        Checks.due("begins", Checks.drive(car, 20, 0, 1), 1);
        return car;
    }

    private static void aChangeLastsForTheTime() {
        for (int time = 2; time <= 20; time++) {
            ShiftMaps car = carWith(time, 0);
            Checks.drive(car, 20, 0, time - 1);
            Checks.due("ticks so far, of " + time, car.car(2), time - 1);
            Checks.due("old gear, of " + time, car.car(0), 1);
            Checks.drive(car, 20, 0, 1);
            Checks.due("no ticks, of " + time, car.car(2), ShiftMaps.NONE);
            Checks.due("new gear, of " + time, car.car(0), 2);
        }
        ShiftMaps first = new ShiftMaps();
        Checks.drive(first, 20, 0, 5);
        Checks.due("5 at first", first.car(2), 4);
    }

    private static void theTimeIs2To20() {
        ShiftMaps car = new ShiftMaps();
        int[] wrong = {Integer.MIN_VALUE, -1, 0, 1, 21, 22, Integer.MAX_VALUE};
        car.setNumber(1, 0);
        for (int time : wrong) {
            Checks.due("time " + time, car.setNumber(0, time), ShiftMaps.BAD_VALUE);
        }
        Checks.due("time 2", car.setNumber(0, 2), 5);
        Checks.due("time 20", car.setNumber(0, 20), 2);
    }

    private static void theLagIs0ToTheTimeLess1() {
        for (int time = 2; time <= 20; time++) {
            ShiftMaps car = new ShiftMaps();
            car.setNumber(0, time);
            Checks.due("lag -1", car.setNumber(1, -1), ShiftMaps.BAD_VALUE);
            Checks.due("lag " + time, car.setNumber(1, time), ShiftMaps.BAD_VALUE);
            Checks.due("far", car.setNumber(1, Integer.MAX_VALUE), ShiftMaps.BAD_VALUE);
            Checks.due("far", car.setNumber(1, Integer.MIN_VALUE), ShiftMaps.BAD_VALUE);
            Checks.due("lag 0", car.setNumber(1, 0), 1);
            Checks.due("lag " + (time - 1), car.setNumber(1, time - 1), 0);
            Checks.due("as told", car.number(1), time - 1);
        }
    }

    private static void theTimeIsGreaterThanTheLag() {
        for (int lag = 2; lag <= 19; lag++) {
            ShiftMaps car = new ShiftMaps();
            car.setNumber(0, 20);
            car.setNumber(1, lag);
            Checks.due("time below the lag", car.setNumber(0, lag - 1), ShiftMaps.BAD_VALUE);
            Checks.due("time like the lag", car.setNumber(0, lag), ShiftMaps.BAD_VALUE);
            int answer = lag == 19 ? ShiftMaps.NONE : 20;
            Checks.due("time above the lag", car.setNumber(0, lag + 1), answer);
        }
    }

    private static void theClosingClutchWaitsForTheLag() {
        int[][] timesAndLags = {{2, 0}, {2, 1}, {5, 0}, {5, 1}, {5, 4}, {20, 0}, {20, 7}, {20, 19}};
        for (int[] pair : timesAndLags) {
            int time = pair[0];
            int lag = pair[1];
            ShiftMaps car = carWith(time, lag);
            for (int k = 0; k <= lag; k++) {
                Checks.dueFloat("k " + k + ", lag " + lag, car.pressed(3), 0.0f);
                Checks.drive(car, 20, 0, 1);
            }
            float due = lag + 1 == time ? 1.0f : 1.0f / (float) (time - lag);
            Checks.dueFloat("k behind the lag " + lag + " of " + time, car.pressed(3), due);
        }
    }

    private static void theOpeningClutchDoesNotWait() {
        ShiftMaps car = carWith(20, 19);
        Checks.dueFloat("behind 0 ticks", car.pressed(4), 1.0f);
        Checks.drive(car, 20, 0, 1);
        Checks.dueFloat("behind 1 tick", car.pressed(4), 1.0f - 1.0f / 20.0f);
        Checks.drive(car, 20, 0, 18);
        Checks.dueFloat("behind 19 ticks", car.pressed(4), 1.0f - 19.0f / 20.0f);
        Checks.drive(car, 20, 0, 1);
        Checks.dueFloat("behind 20 ticks", car.pressed(4), 0.0f);
    }

    private static void theChangeIsOverWhenKIsN() {
        ShiftMaps car = carWith(3, 2);
        Checks.drive(car, 20, 0, 2);
        Checks.due("k 2 of 3: gear", car.car(0), 1);
        Checks.due("k 2 of 3: to", car.car(1), 2);
        Checks.due("k 2 of 3: opens", car.car(5), 4);
        Checks.due("k 2 of 3: closes", car.car(6), 3);
        Checks.drive(car, 20, 0, 1);
        int[] due = {2, ShiftMaps.NONE, ShiftMaps.NONE, 0, 0, ShiftMaps.NONE, ShiftMaps.NONE};
        for (int what = 0; what < due.length; what++) {
            Checks.due("over: car(" + what + ")", car.car(what), due[what]);
        }
        Checks.dueFloat("over: opened", car.pressed(4), 0.0f);
        Checks.dueFloat("over: closed", car.pressed(3), 1.0f);
        Checks.dueFloat("over: force", car.force(), 1.0f);
    }

    private static boolean isClosed(int clutch, int gear) {
        return CLOSED[gear][0] == clutch || CLOSED[gear][1] == clutch;
    }

    private static void otherClutches(ShiftMaps car, int from, int to) {
        String change = from + " to " + to;
        Checks.due("from, " + change, car.car(0), from);
        Checks.due("to, " + change, car.car(1), to);
        for (int k = 0; k < 5; k++) {
            for (int clutch = 0; clutch < 5; clutch++) {
                float due = isClosed(clutch, from) ? 1.0f : 0.0f;
                if (isClosed(clutch, from) && !isClosed(clutch, to)) {
                    due = 1.0f - (float) k / 5.0f;
                    Checks.due("opens, " + change, car.car(5), clutch);
                } else if (isClosed(clutch, to) && !isClosed(clutch, from)) {
                    due = k <= 1 ? 0.0f : (float) (k - 1) / 4.0f;
                    Checks.due("closes, " + change, car.car(6), clutch);
                }
                Checks.dueFloat("clutch " + clutch + " behind " + k + ", " + change, car.pressed(clutch), due);
            }
            Checks.drive(car, 10, 1, 1);
        }
        for (int clutch = 0; clutch < 5; clutch++) {
            Checks.dueFloat("clutch " + clutch + " in " + to, car.pressed(clutch), isClosed(clutch, to) ? 1f : 0f);
        }
    }

    private static void theOtherClutchesInEachChange() {
        for (int gear = 1; gear <= 4; gear++) {
            ShiftMaps up = Checks.carInGear(gear);
            up.shift(true);
            otherClutches(up, gear, gear + 1);
            ShiftMaps down = Checks.carInGear(gear + 1);
            down.shift(false);
            otherClutches(down, gear + 1, gear);
        }
        for (int gear = 3; gear <= 5; gear++) {
            ShiftMaps kickdown = Checks.carInGear(gear);
            Checks.drive(kickdown, 10, 1, 1);
            otherClutches(kickdown, gear, gear - 2);
        }
    }

    private static void force(int time, int lag, float... due) {
        ShiftMaps car = carWith(time, lag);
        for (int k = 0; k < time; k++) {
            Checks.dueFloat("force behind " + k + " of " + time + ", lag " + lag, car.force(), due[k]);
            Checks.drive(car, 20, 0, 1);
        }
        Checks.dueFloat("force behind all of " + time, car.force(), 1.0f);
    }

    private static void theForceIsTheGreaterOne() {
        force(2, 0, 1f, 0.5f);
        force(2, 1, 1f, 0.5f);
        force(4, 0, 1f, 0.75f, 0.5f, 0.75f);
        force(4, 3, 1f, 0.75f, 0.5f, 0.25f);
        force(4, 2, 1f, 0.75f, 0.5f, 0.5f);
        force(5, 1, 1f, 1f - 1f / 5f, 1f - 2f / 5f, 0.5f, 0.75f);
    }

    private static void theForceWithoutAChange() {
        for (int gear = 1; gear <= 5; gear++) {
            Checks.dueFloat("force in " + gear, Checks.carInGear(gear).force(), 1.0f);
        }
    }
}
