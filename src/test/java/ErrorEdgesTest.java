import java.util.List;
import java.util.function.Function;
import java.util.function.Supplier;
import java.util.function.ToIntFunction;

/** ERRORS of the document: the order of the checks, and that a refused call changes nothing. */
public final class ErrorEdgesTest {
    private static final int GOOD = 0x41200000;
    private static final int BAD = -1;
    private static final String FULL_TEXT = "20,0*9;5,0*9;20,0*9;60,95*20;0,0*50;120,30*30;10,10*10;5,5*9";

    /** Each looks at another part of a car, and may use it up. */
    private static final List<Function<ShiftMaps, String>> LOOKS = List.of(
            car -> Checks.stateOf(car) + car.count(13) + " " + car.count(14),
            ErrorEdgesTest::history,
            car -> car.restore() + " " + Checks.stateOf(car),
            car -> car.readDrive() + " " + Checks.stateOf(car),
            car -> car.type('1') + " " + car.type(',') + " " + car.readDrive() + " " + car.clearText(),
            car -> Checks.drive(car, 10, 0.5, 6) + " " + Checks.stateOf(car),
            car -> Checks.drive(car, 10, 1, 1) + " " + Checks.stateOf(car),
            car -> car.byHand(true) + " " + car.shift(false) + " " + car.shift(true));

    public static void main(String[] args) {
        orderOfSetMap();
        orderOfSetNumber();
        orderOfDrive();
        orderOfReadDrive();
        orderOfChange();
        orderOfForecasts();
        refusedInAChange();
        refusedByHand();
        refusedOnANewObject();
        refusedAtTheLastTick();
        refusedReadOfAFault();
        refusedTyping();
        wrongQuestions();
        rightQuestions();
        floatsTellNaN();
        Checks.finish();
    }

    private static String history(ShiftMaps car) {
        StringBuilder told = new StringBuilder();
        for (int i = 0; i < 5; i++) {
            told.append(car.undo()).append(' ').append(car.count(0)).append(' ').append(car.car(0)).append(' ');
            told.append(car.car(1)).append(' ').append(car.number(2)).append(' ').append(car.map(1, 0)).append(' ');
        }
        return told.toString();
    }

    private static void refused(String call, Supplier<ShiftMaps> cars, ToIntFunction<ShiftMaps> asked, int due) {
        for (int i = 0; i < LOOKS.size(); i++) {
            ShiftMaps car = cars.get();
            Checks.due(call, asked.applyAsInt(car), due);
            String as = LOOKS.get(i).apply(car);
            Checks.isTrue(call + " changes nothing, look " + i, as.equals(LOOKS.get(i).apply(cars.get())));
        }
    }

    // ---- the order of the checks

    private static void orderOfSetMap() {
        ShiftMaps car = new ShiftMaps();
        Checks.due("what ahead of the gear", car.setMap(0, 4, GOOD), ShiftMaps.BAD_VALUE);
        Checks.due("what ahead of the gear", car.setMap(6, -1, GOOD), ShiftMaps.BAD_VALUE);
        Checks.due("what ahead of both", car.setMap(0, 4, BAD), ShiftMaps.BAD_VALUE);
        Checks.due("gear ahead of the bits", car.setMap(0, 0, BAD), ShiftMaps.UNKNOWN);
        Checks.due("gear ahead of the bits", car.setMap(5, 2, BAD), ShiftMaps.UNKNOWN);
        Checks.due("gear ahead of the bits", car.setMap(6, 3, BAD), ShiftMaps.UNKNOWN);
        Checks.due("bits", car.setMap(5, 3, BAD), ShiftMaps.BAD_VALUE);
        Checks.due("NONE at last", car.setMap(5, 3, Checks.bits(300)), ShiftMaps.NONE);
    }

    private static void orderOfSetNumber() {
        ShiftMaps car = new ShiftMaps();
        Checks.drive(car, 20, 0, 1);
        Checks.due("which ahead of the value", car.setNumber(4, -1), ShiftMaps.UNKNOWN);
        Checks.due("which ahead of the value", car.setNumber(-1, 1000), ShiftMaps.UNKNOWN);
        Checks.due("value of the time ahead of the change", car.setNumber(0, 21), ShiftMaps.BAD_VALUE);
        Checks.due("value like the lag ahead of the change", car.setNumber(0, 1), ShiftMaps.BAD_VALUE);
        Checks.due("value of the lag ahead of the change", car.setNumber(1, 5), ShiftMaps.BAD_VALUE);
        Checks.due("the change ahead of NONE", car.setNumber(0, 5), ShiftMaps.NOT_POSSIBLE);
        Checks.due("the change ahead of NONE", car.setNumber(1, 1), ShiftMaps.NOT_POSSIBLE);
        Checks.due("the window asks for no change", car.setNumber(2, 20), ShiftMaps.NONE);
        Checks.due("nor does the hold", car.setNumber(3, 30), ShiftMaps.NONE);
        Checks.due("window", car.setNumber(2, 0), ShiftMaps.BAD_VALUE);
        Checks.due("hold", car.setNumber(3, 101), ShiftMaps.BAD_VALUE);
        Checks.drive(car, 20, 0, 5);
        Checks.due("without a change", car.setNumber(0, 5), ShiftMaps.NONE);
        Checks.due("without a change", car.setNumber(1, 1), ShiftMaps.NONE);
    }

    /** At the tick 99999; the text is FULL_TEXT. */
    private static ShiftMaps carAtTheEnd() {
        ShiftMaps car = new ShiftMaps();
        Checks.typeAll(car, "0,0*99;0,0*99;0,0*99;0,0*99;0,0*99;0,0*99;0,0*99;0,0*99;0,0");
        for (int i = 0; i < 126; i++) {
            car.readDrive();
        }
        Checks.drive(car, 0, 0, 71);
        Checks.drive(car, 20, 0, 9);
        Checks.drive(car, 20, 0, 1);
        Checks.due("tick", car.count(0), 99999);
        car.clearText();
        Checks.typeAll(car, FULL_TEXT);
        return car;
    }

    private static void orderOfDrive() {
        ShiftMaps car = carAtTheEnd();
        Checks.due("speed ahead of full", car.drive(BAD, 0, 1), ShiftMaps.BAD_VALUE);
        Checks.due("pedal ahead of full", car.drive(0, BAD, 1), ShiftMaps.BAD_VALUE);
        Checks.due("ticks ahead of full", car.drive(0, 0, 0), ShiftMaps.BAD_VALUE);
        Checks.due("ticks ahead of full", car.drive(0, 0, 100), ShiftMaps.BAD_VALUE);
        Checks.due("ticks ahead of full", car.drive(0, 0, Integer.MAX_VALUE), ShiftMaps.BAD_VALUE);
        Checks.due("full", car.drive(0, 0, 1), ShiftMaps.FULL);
        Checks.due("full", car.drive(0, 0, 99), ShiftMaps.FULL);
    }

    private static void orderOfReadDrive() {
        ShiftMaps car = carAtTheEnd();
        Checks.due("full", car.readDrive(), ShiftMaps.FULL);
        car.clearText();
        Checks.due("fault ahead of full", car.readDrive(), -100);
        Checks.typeAll(car, "0,0*9;0,0*100");
        Checks.due("fault ahead of full", car.readDrive(), -112);
    }

    private static void orderOfChange() {
        ShiftMaps car = new ShiftMaps();
        Checks.due("what ahead of none", car.change(0, 5), ShiftMaps.BAD_VALUE);
        Checks.due("what ahead of none", car.change(10, -1), ShiftMaps.BAD_VALUE);
        Checks.due("back ahead of none", car.change(-1, 0), ShiftMaps.BAD_VALUE);
        Checks.due("both", car.change(-1, 5), ShiftMaps.BAD_VALUE);
        Checks.due("none", car.change(0, 0), ShiftMaps.NONE);
    }

    /** At 12 it goes up by guard and down by its border for ever. */
    private static ShiftMaps restlessCar() {
        ShiftMaps car = new ShiftMaps();
        car.setMap(1, 3, Checks.bits(11));
        car.setMap(1, 0, Checks.bits(40));
        return car;
    }

    private static void orderOfForecasts() {
        ShiftMaps car = restlessCar();
        Checks.due("it never settles", car.settles(Checks.bits(12), 0), ShiftMaps.NONE);
        Checks.due("value ahead of NONE", car.settles(Checks.bits(12), BAD), ShiftMaps.BAD_VALUE);
        Checks.due("none would be", car.wouldChoose(0, 0), ShiftMaps.NONE);
        Checks.due("value ahead of NONE", car.wouldChoose(0, BAD), ShiftMaps.BAD_VALUE);
        Checks.due("value ahead of NONE", car.wouldChoose(BAD, 0), ShiftMaps.BAD_VALUE);
    }

    // ---- a refused call changes nothing

    /** Everything is full: four states, a snapshot, a text of 60, a change behind one tick, the gear held. */
    private static ShiftMaps carInAChange() {
        ShiftMaps car = Checks.quickCar();
        car.setNumber(0, 4);
        Checks.typeAll(car, FULL_TEXT);
        Checks.drive(car, 20, 0.25, 2);
        car.keep();
        Checks.drive(car, 40, 0, 4);
        Checks.drive(car, 5, 0, 4);
        Checks.drive(car, 22, 0, 1);
        Checks.drive(car, 22, 0.97, 1);
        return car;
    }

    private static void refusedSettings(String when, Supplier<ShiftMaps> cars, int time, int lag) {
        refused(when + "setMap, what", cars, car -> car.setMap(1, 4, GOOD), ShiftMaps.BAD_VALUE);
        refused(when + "setMap, what", cars, car -> car.setMap(1, -1, GOOD), ShiftMaps.BAD_VALUE);
        refused(when + "setMap, gear 0", cars, car -> car.setMap(0, 0, GOOD), ShiftMaps.UNKNOWN);
        refused(when + "setMap, gear 5", cars, car -> car.setMap(5, 0, GOOD), ShiftMaps.UNKNOWN);
        refused(when + "setMap, gear 6", cars, car -> car.setMap(6, 3, GOOD), ShiftMaps.UNKNOWN);
        refused(when + "setMap, bits", cars, car -> car.setMap(1, 0, BAD), ShiftMaps.BAD_VALUE);
        refused(when + "setMap, is so", cars, car -> car.setMap(1, 0, Checks.bits(15)), ShiftMaps.NONE);
        refused(when + "setNumber, which", cars, car -> car.setNumber(-1, 5), ShiftMaps.UNKNOWN);
        refused(when + "setNumber, which", cars, car -> car.setNumber(4, 5), ShiftMaps.UNKNOWN);
        refused(when + "setNumber, time 21", cars, car -> car.setNumber(0, 21), ShiftMaps.BAD_VALUE);
        refused(when + "setNumber, time of the lag", cars, car -> car.setNumber(0, lag), ShiftMaps.BAD_VALUE);
        refused(when + "setNumber, lag of the time", cars, car -> car.setNumber(1, time), ShiftMaps.BAD_VALUE);
        refused(when + "setNumber, window 101", cars, car -> car.setNumber(2, 101), ShiftMaps.BAD_VALUE);
        refused(when + "setNumber, window is so", cars, car -> car.setNumber(2, 20), ShiftMaps.NONE);
        refused(when + "setNumber, hold 0", cars, car -> car.setNumber(3, 0), ShiftMaps.BAD_VALUE);
        refused(when + "setNumber, hold is so", cars, car -> car.setNumber(3, 30), ShiftMaps.NONE);
    }

    private static void refusedInAChange() {
        Supplier<ShiftMaps> cars = ErrorEdgesTest::carInAChange;
        ShiftMaps told = cars.get();
        Checks.due("in a change", told.car(2), 1);
        Checks.due("held", told.car(3), 29);
        Checks.due("text", told.count(14), 60);
        Checks.due("states", told.count(13), 4);
        refusedSettings("in a change, ", cars, 4, 0);
        refused("time in a change", cars, car -> car.setNumber(0, 6), ShiftMaps.NOT_POSSIBLE);
        refused("lag in a change", cars, car -> car.setNumber(1, 2), ShiftMaps.NOT_POSSIBLE);
        refused("byHand", cars, car -> car.byHand(false), ShiftMaps.NONE);
        refused("drive, speed", cars, car -> car.drive(BAD, 0, 5), ShiftMaps.BAD_VALUE);
        refused("drive, pedal", cars, car -> car.drive(GOOD, BAD, 5), ShiftMaps.BAD_VALUE);
        refused("drive, 0 ticks", cars, car -> car.drive(GOOD, 0, 0), ShiftMaps.BAD_VALUE);
        refused("drive, 100 ticks", cars, car -> car.drive(GOOD, 0, 100), ShiftMaps.BAD_VALUE);
        refused("shift, not by hand", cars, car -> car.shift(true), ShiftMaps.NOT_POSSIBLE);
        refused("shift, not by hand", cars, car -> car.shift(false), ShiftMaps.NOT_POSSIBLE);
        refused("type", cars, car -> car.type('1'), ShiftMaps.FULL);
    }

    /** By hand in the gear 1; the bound of 2 is below the speed of the latest tick. */
    private static ShiftMaps carByHand() {
        ShiftMaps car = new ShiftMaps();
        car.byHand(true);
        car.keep();
        car.setMap(2, 3, Checks.bits(20));
        Checks.drive(car, 21, 0.5, 3);
        return car;
    }

    private static ShiftMaps carShifted() {
        ShiftMaps car = new ShiftMaps();
        car.byHand(true);
        car.shift(true);
        return car;
    }

    private static void refusedByHand() {
        Supplier<ShiftMaps> cars = ErrorEdgesTest::carByHand;
        refused("no gear 0", cars, car -> car.shift(false), ShiftMaps.NOT_POSSIBLE);
        refused("bound of 2", cars, car -> car.shift(true), ShiftMaps.NOT_POSSIBLE);
        refused("is so", cars, car -> car.byHand(true), ShiftMaps.NONE);
        refused("no gear 6", () -> Checks.carInGear(5), car -> car.shift(true), ShiftMaps.NOT_POSSIBLE);
        refused("in a change, up", ErrorEdgesTest::carShifted, car -> car.shift(true), ShiftMaps.NOT_POSSIBLE);
        refused("in a change, down", ErrorEdgesTest::carShifted, car -> car.shift(false), ShiftMaps.NOT_POSSIBLE);
    }

    private static void refusedOnANewObject() {
        refusedSettings("new, ", ShiftMaps::new, 5, 1);
        refused("time is so", ShiftMaps::new, car -> car.setNumber(0, 5), ShiftMaps.NONE);
        refused("lag is so", ShiftMaps::new, car -> car.setNumber(1, 1), ShiftMaps.NONE);
        refused("byHand", ShiftMaps::new, car -> car.byHand(false), ShiftMaps.NONE);
        refused("undo", ShiftMaps::new, ShiftMaps::undo, ShiftMaps.NONE);
        refused("restore", ShiftMaps::new, ShiftMaps::restore, ShiftMaps.NONE);
        refused("readDrive", ShiftMaps::new, ShiftMaps::readDrive, -100);
        refused("clearText", ShiftMaps::new, ShiftMaps::clearText, 0);
    }

    private static void refusedAtTheLastTick() {
        Supplier<ShiftMaps> cars = ErrorEdgesTest::carAtTheEnd;
        refused("drive", cars, car -> car.drive(GOOD, 0, 1), ShiftMaps.FULL);
        refused("readDrive", cars, ShiftMaps::readDrive, ShiftMaps.FULL);
    }

    private static ShiftMaps carWithText(String text) {
        ShiftMaps car = new ShiftMaps();
        Checks.drive(car, 10, 0, 3);
        Checks.typeAll(car, text);
        return car;
    }

    private static void refusedReadOfAFault() {
        refused("at the end", () -> carWithText("20,0*9;"), ShiftMaps::readDrive, -107);
        refused("in the second part", () -> carWithText("20,0*9;x"), ShiftMaps::readDrive, -107);
        refused("in the first part", () -> carWithText("20;0*9;1,1"), ShiftMaps::readDrive, -102);
    }

    private static void refusedTyping() {
        ShiftMaps car = carInAChange();
        for (int i = 0; i < 3; i++) {
            Checks.due("a digit", car.type('9'), ShiftMaps.FULL);
            Checks.due("another character", car.type('x'), ShiftMaps.FULL);
        }
        Checks.due("length", car.count(14), 60);
        Checks.isTrue("the text is without them", car.readDrive() >= 0);
        Checks.due("cleared", car.clearText(), 60);
    }

    private static void wrongQuestions() {
        Supplier<ShiftMaps> cars = ErrorEdgesTest::carInAChange;
        int[] far = {Integer.MIN_VALUE, -1, 99, Integer.MAX_VALUE};
        for (int what : far) {
            refused("car", cars, car -> car.car(what), ShiftMaps.BAD_VALUE);
            refused("number", cars, car -> car.number(what), ShiftMaps.UNKNOWN);
            refused("change", cars, car -> car.change(0, what), ShiftMaps.BAD_VALUE);
            refused("count", cars, car -> car.count(what), ShiftMaps.BAD_VALUE);
        }
        refused("change, back", cars, car -> car.change(-1, 0), ShiftMaps.BAD_VALUE);
        refused("change, none", cars, car -> car.change(5, 0), ShiftMaps.NONE);
        refused("wouldChoose", cars, car -> car.wouldChoose(BAD, 0), ShiftMaps.BAD_VALUE);
        refused("wouldChoose", cars, car -> car.wouldChoose(0, BAD), ShiftMaps.BAD_VALUE);
        refused("settles", cars, car -> car.settles(BAD, 0), ShiftMaps.BAD_VALUE);
        refused("settles", cars, car -> car.settles(0, BAD), ShiftMaps.BAD_VALUE);
        refused("floats", cars, car -> nans(car), 5);
    }

    private static void rightQuestions() {
        Supplier<ShiftMaps> cars = ErrorEdgesTest::carInAChange;
        refused("wouldChoose", cars, car -> car.wouldChoose(Checks.bits(290), 0), ShiftMaps.NONE);
        refused("settles", cars, car -> car.settles(Checks.bits(290), 0), 11);
        refused("settles, never", ErrorEdgesTest::restlessCar, car -> car.settles(Checks.bits(12), 0), ShiftMaps.NONE);
        refused("keep, but for the snapshot", carInAChangeKept(), ShiftMaps::keep, 12);
    }

    /** The snapshot is what is now, so that keep() takes the same one again. */
    private static Supplier<ShiftMaps> carInAChangeKept() {
        return () -> {
            ShiftMaps car = carInAChange();
            car.keep();
            return car;
        };
    }

    private static int nans(ShiftMaps car) {
        float[] told = {
            car.pressed(-1), car.pressed(5), car.map(0, 0), car.border(0, 0, true), car.border(1, BAD, false)
        };
        int nans = 0;
        for (float answer : told) {
            nans += answer != answer ? 1 : 0;
        }
        return nans;
    }

    private static void floatsTellNaN() {
        ShiftMaps car = new ShiftMaps();
        Checks.due("wrong arguments", nans(car), 5);
        Checks.dueFloat("what ahead of all", car.map(1, 4), Float.NaN);
        Checks.dueFloat("gear 5 of a map", car.map(5, 2), Float.NaN);
        Checks.dueFloat("gear 6 of a bound", car.map(6, 3), Float.NaN);
        Checks.dueFloat("gear 5 of a border", car.border(5, 0, false), Float.NaN);
        Checks.dueFloat("both of a border", car.border(5, BAD, false), Float.NaN);
        Checks.isTrue("force has no argument", car.force() == 1.0f);
    }
}
