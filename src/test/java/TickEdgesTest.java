/** A TICK of the document: the edges of each reason to change, and which of two is the first. */
public final class TickEdgesTest {
    private static final int UP = 0;
    private static final int DOWN = 1;
    private static final int KICKDOWN = 2;
    private static final int GUARD = 4;

    private static final float[] BOUNDS = {50f, 90f, 130f, 180f};
    private static final float[] LOWS = {15f, 30f, 45f, 60f};
    private static final float[] HIGHS = {40f, 75f, 110f, 150f};
    private static final float[] DISTANCES = {5f, 8f, 10f, 12f};
    private static final float DEEP = 0.95f;
    private static final float NOT_DEEP = Math.nextDown(0.95f);

    public static void main(String[] args) {
        aChangeThatIsOverLeavesTheTickFree();
        guardIsAboveTheBound();
        guardIsBelowGear5();
        kickdownIsAtThePedal95();
        kickdownIsAfterAPedalBelow95();
        kickdownIsOneOrTwoBelow();
        kickdownBoundIsNotLess();
        kickdownTakesTheLowest();
        byHandNothingElse();
        heldNothingElse();
        upIsAboveTheBorder();
        upIsBelowGear5();
        downIsBelowTheBorder();
        downIsAboveGear1();
        theFirstThatAppliesIsTaken();
        noneAppliesAndTheGearStays();
        theTickIsGreaterBy1BehindIt();
        Checks.finish();
    }

    /** In a gear, and not by hand any more. */
    private static ShiftMaps carAt(int gear) {
        ShiftMaps car = Checks.carInGear(gear);
        car.byHand(false);
        Checks.due("gear", car.car(0), gear);
        return car;
    }

    private static void begins(String when, ShiftMaps car, double speed, double pedal, int why, int gear) {
        int from = car.car(1) == ShiftMaps.NONE ? car.car(0) : car.car(1);
        int tick = car.count(0);
        Checks.due(when + ": begins", Checks.drive(car, speed, pedal, 1), 1);
        int[] due = {tick, from, gear, why};
        for (int what = 0; what < due.length; what++) {
            Checks.due(when + ": change(0, " + what + ")", car.change(0, what), due[what]);
        }
        Checks.due(when + ": to", car.car(1), gear);
        Checks.due(when + ": behind 0 ticks", car.car(2), 0);
    }

    private static void stays(String when, ShiftMaps car, double speed, double pedal, int ticks) {
        int gear = car.car(0);
        Checks.due(when + ": none begins", Checks.drive(car, speed, pedal, ticks), 0);
        Checks.due(when + ": gear", car.car(0), gear);
        Checks.due(when + ": no change", car.car(1), ShiftMaps.NONE);
    }

    /** Its change from 1 to 2 is over by the next tick. */
    private static ShiftMaps carBeforeTheEnd() {
        ShiftMaps car = Checks.quickCar();
        Checks.drive(car, 20, 0, 2);
        Checks.due("in the change", car.car(2), 1);
        return car;
    }

    private static void aChangeThatIsOverLeavesTheTickFree() {
        ShiftMaps car = Checks.quickCar();
        Checks.drive(car, 55, 0, 1);
        Checks.due("not over: none begins", Checks.drive(car, 55, 0, 1), 0);
        begins("over by this tick, and on", carBeforeTheEnd(), 55, 0, UP, 3);
        begins("over by this tick, and back", carBeforeTheEnd(), 5, 0, DOWN, 1);
        begins("over by this tick, kickdown", carBeforeTheEnd(), 40, 1, KICKDOWN, 1);
        begins("over by this tick, guard", carBeforeTheEnd(), 91, 0, GUARD, 3);
    }

    private static void guardIsAboveTheBound() {
        for (int gear = 1; gear <= 4; gear++) {
            float bound = BOUNDS[gear - 1];
            ShiftMaps car = Checks.carInGear(gear);
            stays("at the bound of " + gear, car, bound, 0, 3);
            begins("above the bound of " + gear, car, Math.nextUp(bound), 0, GUARD, gear + 1);
            ShiftMaps zero = Checks.carInGear(gear);
            zero.setMap(gear, 3, 0);
            stays("at the bound 0.0f", zero, 0, 0, 3);
            begins("above the bound 0.0f", zero, Float.MIN_VALUE, 0, GUARD, gear + 1);
        }
    }

    private static void guardIsBelowGear5() {
        ShiftMaps car = Checks.carInGear(5);
        car.setMap(5, 3, Checks.bits(20));
        stays("at the bound of 5", car, 20, 0, 3);
        stays("above the bound of 5", car, 300, 0, 3);
    }

    private static void kickdownIsAtThePedal95() {
        for (int gear = 2; gear <= 5; gear++) {
            int lowest = Math.max(gear - 2, 1);
            ShiftMaps car = Checks.carInGear(gear);
            stays("less than 0.95f", car, 10, NOT_DEEP, 3);
            begins("0.95f", car, 10, DEEP, KICKDOWN, lowest);
            begins("more", Checks.carInGear(gear), 10, Math.nextUp(DEEP), KICKDOWN, lowest);
            begins("1.0f", Checks.carInGear(gear), 10, 1, KICKDOWN, lowest);
        }
    }

    private static void kickdownIsAfterAPedalBelow95() {
        ShiftMaps car = Checks.carInGear(4);
        stays("too fast for it", car, 150, DEEP, 1);
        stays("the pedal before was 0.95f", car, 10, 1, 5);
        Checks.drive(car, 10, NOT_DEEP, 1);
        begins("the pedal before was less", car, 10, DEEP, KICKDOWN, 2);
        Checks.due("the pedal stays", Checks.drive(car, 10, 1, 25), 0);
        Checks.due("gear", car.car(0), 2);
        Checks.drive(car, 10, NOT_DEEP, 1);
        begins("once more", car, 10, 1, KICKDOWN, 1);
        ShiftMaps inChange = Checks.carInGear(3);
        inChange.shift(true);
        Checks.drive(inChange, 10, 1, 1);
        Checks.due("pressed in the change", Checks.drive(inChange, 10, 1, 13), 0);
        ShiftMaps released = Checks.carInGear(3);
        released.shift(true);
        Checks.drive(released, 10, 1, 3);
        Checks.drive(released, 10, 0, 1);
        begins("released in the change, pressed at its end", released, 10, 1, KICKDOWN, 2);
    }

    private static void kickdownIsOneOrTwoBelow() {
        begins("from 5", Checks.carInGear(5), 0, 1, KICKDOWN, 3);
        begins("from 4", Checks.carInGear(4), 0, 1, KICKDOWN, 2);
        begins("from 3", Checks.carInGear(3), 0, 1, KICKDOWN, 1);
        begins("from 2", Checks.carInGear(2), 0, 1, KICKDOWN, 1);
        stays("from 1", Checks.carInGear(1), 0, 1, 3);
    }

    private static void kickdownBoundIsNotLess() {
        for (int gear = 3; gear <= 5; gear++) {
            float two = BOUNDS[gear - 3];
            float one = BOUNDS[gear - 2];
            begins("at the bound of two below", Checks.carInGear(gear), two, 1, KICKDOWN, gear - 2);
            begins("above it", Checks.carInGear(gear), Math.nextUp(two), 1, KICKDOWN, gear - 1);
            begins("at the bound of one below", Checks.carInGear(gear), one, 1, KICKDOWN, gear - 1);
            stays("above both", Checks.carInGear(gear), Math.nextUp(one), 1, 3);
        }
        begins("from 2, at the bound", Checks.carInGear(2), 50, 1, KICKDOWN, 1);
        stays("from 2, above it", Checks.carInGear(2), Math.nextUp(50f), 1, 3);
    }

    private static void kickdownTakesTheLowest() {
        ShiftMaps car = Checks.carInGear(4);
        car.setMap(3, 3, Checks.bits(20));
        begins("the bound of one below is too low", car, 60, 1, KICKDOWN, 2);
        ShiftMaps own = Checks.carInGear(4);
        own.setMap(4, 3, Checks.bits(60));
        begins("at the bound of the gear itself", own, 60, 1, KICKDOWN, 2);
        ShiftMaps three = Checks.carInGear(4);
        three.setMap(2, 3, Checks.bits(20));
        three.setMap(3, 3, Checks.bits(20));
        three.setMap(1, 3, Checks.bits(100));
        stays("three below counts not", three, 60, 1, 3);
    }

    private static void byHandNothingElse() {
        stays("no up by hand", Checks.carInGear(1), 50, 0, 30);
        stays("no down by hand", Checks.carInGear(5), 0, 0, 30);
        ShiftMaps car = Checks.carInGear(1);
        Checks.drive(car, 50, 0, 1);
        car.byHand(false);
        begins("up behind it", car, 50, 0, UP, 2);
        begins("guard by hand", Checks.carInGear(1), 51, 0, GUARD, 2);
        begins("kickdown by hand", Checks.carInGear(3), 51, 1, KICKDOWN, 2);
        begins("at first it is not", new ShiftMaps(), 50, 0, UP, 2);
    }

    private static void heldNothingElse() {
        ShiftMaps car = Checks.quickCar();
        car.setNumber(2, 4);
        car.setNumber(3, 3);
        Checks.swing(car);
        Checks.due("held for 3", car.car(3), 3);
        for (int left = 2; left >= 0; left--) {
            Checks.due("no down while held", Checks.drive(car, 5, 0, 1), 0);
            Checks.due("one tick less", car.car(3), left);
        }
        begins("no more held", car, 5, 0, DOWN, 1);
        Checks.due("not below 0", car.car(3), 0);
        ShiftMaps up = Checks.quickCar();
        up.setNumber(3, 3);
        Checks.swing(up);
        Checks.due("no up while held", Checks.drive(up, 40, 0, 3), 0);
        begins("no more held", up, 40, 0, UP, 3);
        ShiftMaps guard = Checks.quickCar();
        Checks.swing(guard);
        Checks.drive(guard, 20, 0, 2);
        begins("guard while held", guard, 91, 0, GUARD, 3);
        ShiftMaps kickdown = Checks.quickCar();
        Checks.swing(kickdown);
        Checks.drive(kickdown, 20, 0, 2);
        begins("kickdown while held", kickdown, 20, 1, KICKDOWN, 1);
    }

    private static float upAt(int gear, float pedal) {
        float difference = HIGHS[gear - 1] - LOWS[gear - 1];
        float product = difference * pedal;
        return LOWS[gear - 1] + product;
    }

    private static void upIsAboveTheBorder() {
        float[] pedals = {0f, 0.25f, 0.7f};
        for (int gear = 1; gear <= 4; gear++) {
            for (float pedal : pedals) {
                float border = upAt(gear, pedal);
                ShiftMaps car = carAt(gear);
                stays("at the border up from " + gear, car, border, pedal, 3);
                begins("above the border up from " + gear, car, Math.nextUp(border), pedal, UP, gear + 1);
            }
        }
        ShiftMaps full = carAt(1);
        stays("at the border, pedal 1.0f", full, 40, 1, 3);
        begins("above it", full, Math.nextUp(40f), 1, UP, 2);
    }

    private static void upIsBelowGear5() {
        ShiftMaps car = carAt(5);
        stays("none up from 5", car, 300, 0, 30);
    }

    private static void downIsBelowTheBorder() {
        float[] pedals = {0f, 0.25f, 0.7f};
        for (int gear = 2; gear <= 5; gear++) {
            for (float pedal : pedals) {
                float border = upAt(gear - 1, pedal) - DISTANCES[gear - 2];
                ShiftMaps car = carAt(gear);
                stays("at the border down from " + gear, car, border, pedal, 3);
                begins("below the border down from " + gear, car, Math.nextDown(border), pedal, DOWN, gear - 1);
            }
        }
        ShiftMaps below = carAt(2);
        below.setMap(1, 2, Checks.bits(15));
        stays("at the border 0.0f", below, 0, 0, 3);
        below.setMap(1, 2, Checks.bits(300));
        stays("a border below 0.0f", below, 0, 0, 3);
    }

    private static void downIsAboveGear1() {
        stays("none down from 1", carAt(1), 0, 0, 30);
    }

    private static void theFirstThatAppliesIsTaken() {
        ShiftMaps guard = Checks.carInGear(3);
        guard.setMap(3, 3, Checks.bits(20));
        begins("guard ahead of kickdown", guard, 21, 1, GUARD, 4);
        ShiftMaps up = carAt(1);
        begins("guard ahead of up", up, 60, 0, GUARD, 2);
        ShiftMaps down = carAt(3);
        down.setMap(3, 3, Checks.bits(5));
        begins("guard ahead of down", down, 6, 0, GUARD, 4);
        ShiftMaps kickUp = carAt(3);
        kickUp.setMap(3, 1, Checks.bits(45));
        begins("kickdown ahead of up", kickUp, 48, 1, KICKDOWN, 1);
        begins("kickdown ahead of down", carAt(4), 5, 1, KICKDOWN, 2);
        ShiftMaps both = carAt(2);
        both.setMap(1, 0, Checks.bits(60));
        both.setMap(2, 0, Checks.bits(20));
        begins("up ahead of down", both, 40, 0, UP, 3);
    }

    private static void noneAppliesAndTheGearStays() {
        ShiftMaps car = carAt(3);
        stays("between both borders", car, 40, 0, 50);
        Checks.due("the log stays", car.change(0, 3), 3);
        Checks.due("no more changes", car.count(1) + car.count(2) + car.count(3) + car.count(5), 0);
    }

    private static void theTickIsGreaterBy1BehindIt() {
        ShiftMaps car = new ShiftMaps();
        Checks.due("0 at first", car.count(0), 0);
        Checks.drive(car, 20, 0, 1);
        Checks.due("1 behind the first", car.count(0), 1);
        Checks.due("the change began in the tick 0", car.change(0, 0), 0);
        Checks.drive(car, 40, 0, 5);
        Checks.due("6 behind six", car.count(0), 6);
        Checks.due("the next one in the tick 5", car.change(0, 0), 5);
    }
}
