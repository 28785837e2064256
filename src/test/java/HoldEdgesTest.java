/** The memory that holds the gear: which three changes hold it, the window, the hold, and what ends it. */
public final class HoldEdgesTest {
    /** At the pedal 0.0f: one gear up from each gear, one gear down, and neither. */
    private static final double[] UP_FROM = {0, 16, 31, 46, 61, 0};
    private static final double[] DOWN_FROM = {0, 0, 9, 21, 34, 47};
    private static final double[] NEUTRAL = {0, 12, 20, 40, 50, 60};

    public static void main(String[] args) {
        allThreeAreByUpOrDown();
        eachIsInAnotherDirection();
        twoChangesDoNotHold();
        aFourthChangeHoldsAgain();
        windowEdges();
        windowIsAskedOfTheFirst();
        windowIs1To100();
        windowIsThatOfTheThird();
        holdEdges();
        holdIs1To100();
        heldTicksPassInEachTick();
        newHoldIsForTheNextTime();
        aShiftNeverHolds();
        Checks.finish();
    }

    /** Begins a change by u(p), d(own), k(ickdown), g(uard) or h(and), and lets it pass in three ticks. */
    private static void change(ShiftMaps car, char why) {
        int gear = car.car(0);
        boolean up = why == 'u' || why == 'g' || why == 'U';
        int next = up ? gear + 1 : gear - 1;
        switch (why) {
            case 'u': Checks.drive(car, UP_FROM[gear], 0, 1); break;
            case 'd': Checks.drive(car, DOWN_FROM[gear], 0, 1); break;
            case 'k': Checks.drive(car, 12, 1, 1); break;
            case 'g': Checks.drive(car, 51, 0, 1); break;
            default: byHand(car, up); break;
        }
        Checks.due(why + " from " + gear, car.car(1), next);
    }

    /** U is up by hand, D is down by hand. */
    private static void byHand(ShiftMaps car, boolean up) {
        car.byHand(true);
        car.shift(up);
        car.byHand(false);
    }

    private static ShiftMaps quickCarIn(int gear) {
        ShiftMaps car = Checks.quickCar();
        car.byHand(true);
        for (int i = 1; i < gear; i++) {
            car.shift(true);
            Checks.drive(car, 10, 0, 2);
        }
        car.byHand(false);
        Checks.due("gear", car.car(0), gear);
        return car;
    }

    private static void sequence(int gear, String reasons, int holds) {
        ShiftMaps car = quickCarIn(gear);
        for (int i = 0; i < reasons.length(); i++) {
            if (i > 0) {
                Checks.drive(car, NEUTRAL[car.car(1)], 0, 2);
            }
            Checks.due(reasons + " holds too early", car.count(6), 0);
            change(car, reasons.charAt(i));
        }
        Checks.due(reasons + ": how often", car.count(6), holds);
        Checks.due(reasons + ": logged", car.change(0, 4), holds);
        Checks.due(reasons + ": for how many ticks", car.car(3), holds * 30);
    }

    private static void allThreeAreByUpOrDown() {
        String ups = "ugU";
        String downs = "dkD";
        for (char up : ups.toCharArray()) {
            for (char down : downs.toCharArray()) {
                for (char other : ups.toCharArray()) {
                    String reasons = "" + up + down + other;
                    sequence(1, reasons, reasons.equals("udu") ? 1 : 0);
                }
                for (char other : downs.toCharArray()) {
                    String reasons = "" + down + up + other;
                    sequence(2, reasons, reasons.equals("dud") ? 1 : 0);
                }
            }
        }
    }

    private static void eachIsInAnotherDirection() {
        sequence(2, "uuu", 0);
        sequence(4, "ddd", 0);
        sequence(3, "uud", 0);
        sequence(3, "udd", 0);
        sequence(3, "ddu", 0);
        sequence(3, "duu", 0);
        for (int gear = 1; gear <= 4; gear++) {
            sequence(gear, "udu", 1);
            sequence(gear + 1, "dud", 1);
        }
        sequence(2, "uudu", 1);
        sequence(4, "ddud", 1);
        sequence(3, "uddu", 0);
        sequence(3, "duud", 0);
    }

    private static void twoChangesDoNotHold() {
        sequence(1, "u", 0);
        sequence(2, "d", 0);
        sequence(1, "ud", 0);
        sequence(2, "du", 0);
    }

    private static void aFourthChangeHoldsAgain() {
        ShiftMaps car = Checks.quickCar();
        car.setNumber(3, 1);
        Checks.swing(car);
        Checks.due("the third", car.count(6), 1);
        Checks.drive(car, 20, 0, 1);
        Checks.due("held no more", car.car(3), 0);
        Checks.due("down", Checks.drive(car, 5, 0, 1), 1);
        Checks.due("the fourth", car.count(6), 2);
        Checks.due("held again", car.car(3), 1);
        Checks.due("logged", car.change(0, 4), 1);
    }

    /** Up in the tick 0, down in the tick of the middle, up in the last one. */
    private static ShiftMaps swingIn(int window, int middle, int last) {
        ShiftMaps car = Checks.quickCar();
        car.setNumber(2, window);
        Checks.drive(car, 20, 0, 1);
        for (int tick = 1; tick < last; tick++) {
            Checks.drive(car, tick == middle ? 5 : tick < middle ? 20 : 12, 0, 1);
        }
        Checks.drive(car, 20, 0, 1);
        Checks.due("first", car.change(2, 0), 0);
        Checks.due("middle", car.change(1, 0), middle);
        Checks.due("last", car.change(0, 0), last);
        return car;
    }

    private static void windowEdges() {
        int[] windows = {4, 5, 6, 19, 20, 21, 99, 100};
        for (int window : windows) {
            Checks.due("window " + window + ", as long ago", swingIn(window, 2, window).car(3), 30);
            Checks.due("window " + window + ", longer ago", swingIn(window, 2, window + 1).car(3), 0);
        }
        for (int window = 1; window <= 3; window++) {
            Checks.due("window " + window, swingIn(window, 2, 4).car(3), 0);
        }
    }

    private static void windowIsAskedOfTheFirst() {
        Checks.due("the second is late", swingIn(20, 18, 20).car(3), 30);
        Checks.due("the second is late, and the first too long ago", swingIn(20, 19, 21).car(3), 0);
        ShiftMaps car = Checks.quickCar();
        Checks.drive(car, 20, 0, 2);
        Checks.drive(car, 5, 0, 2);
        Checks.drive(car, 12, 0, 30);
        Checks.drive(car, 20, 0, 2);
        Checks.due("too long ago", car.count(6), 0);
        Checks.drive(car, 5, 0, 1);
        Checks.due("34 ticks ago", car.count(6), 0);
        Checks.drive(car, 5, 0, 1);
        Checks.drive(car, 20, 0, 1);
        Checks.due("the latest three alone", car.count(6), 1);
    }

    private static void windowIs1To100() {
        ShiftMaps car = new ShiftMaps();
        int[] wrong = {Integer.MIN_VALUE, -1, 0, 101, 102, Integer.MAX_VALUE};
        for (int window : wrong) {
            Checks.due("window " + window, car.setNumber(2, window), ShiftMaps.BAD_VALUE);
        }
        Checks.due("20 at first", car.number(2), 20);
        Checks.due("window 1", car.setNumber(2, 1), 20);
        Checks.due("window 100", car.setNumber(2, 100), 1);
    }

    private static void windowIsThatOfTheThird() {
        ShiftMaps car = Checks.quickCar();
        car.setNumber(2, 3);
        Checks.drive(car, 20, 0, 2);
        Checks.drive(car, 5, 0, 2);
        car.setNumber(2, 4);
        Checks.drive(car, 20, 0, 1);
        Checks.due("set ahead of the third", car.count(6), 1);
    }

    private static void holdEdges() {
        int[] holds = {2, 3, 30, 99, 100};
        for (int hold : holds) {
            ShiftMaps car = Checks.quickCar();
            car.setNumber(3, hold);
            Checks.swing(car);
            Checks.due("behind the tick", car.car(3), hold);
            Checks.due("nothing in " + hold + " ticks", Checks.drive(car, 5, 0, Math.min(hold, 99)), 0);
            if (hold == 100) {
                Checks.due("nothing in the 100th", Checks.drive(car, 5, 0, 1), 0);
            }
            Checks.due("held no more", car.car(3), 0);
            Checks.due("but in the next one", Checks.drive(car, 5, 0, 1), 1);
        }
        ShiftMaps one = Checks.quickCar();
        one.setNumber(3, 1);
        Checks.swing(one);
        Checks.due("held for 1", one.car(3), 1);
        Checks.drive(one, 5, 0, 1);
        Checks.due("held for 0", one.car(3), 0);
    }

    private static void holdIs1To100() {
        ShiftMaps car = new ShiftMaps();
        int[] wrong = {Integer.MIN_VALUE, -1, 0, 101, 102, Integer.MAX_VALUE};
        for (int hold : wrong) {
            Checks.due("hold " + hold, car.setNumber(3, hold), ShiftMaps.BAD_VALUE);
        }
        Checks.due("30 at first", car.number(3), 30);
        Checks.due("hold 1", car.setNumber(3, 1), 30);
        Checks.due("hold 100", car.setNumber(3, 100), 1);
    }

    private static void heldTicksPassInEachTick() {
        ShiftMaps car = Checks.quickCar();
        Checks.swing(car);
        Checks.drive(car, 20, 0, 1);
        Checks.due("in the change", car.car(3), 29);
        Checks.drive(car, 20, 0, 1);
        Checks.due("behind it", car.car(3), 28);
        car.byHand(true);
        Checks.due("by hand, without a tick", car.car(3), 28);
        Checks.drive(car, 20, 0, 1);
        Checks.due("by hand", car.car(3), 27);
        Checks.drive(car, 91, 0, 1);
        Checks.due("in the tick of a guard", car.car(3), 26);
        Checks.drive(car, 91, 0, 26);
        Checks.due("0", car.car(3), 0);
        Checks.drive(car, 91, 0, 5);
        Checks.due("not below 0", car.car(3), 0);
    }

    private static void newHoldIsForTheNextTime() {
        ShiftMaps car = Checks.quickCar();
        Checks.swing(car);
        Checks.due("set", car.setNumber(3, 7), 30);
        Checks.due("held as before", car.car(3), 30);
        Checks.due("window too", car.setNumber(2, 100), 20);
        Checks.due("nothing while held", Checks.drive(car, 5, 0, 30), 0);
        Checks.due("down", Checks.drive(car, 5, 0, 1), 1);
        Checks.due("the new hold", car.car(3), 7);
    }

    private static void aShiftNeverHolds() {
        sequence(1, "udU", 0);
        sequence(2, "duD", 0);
        sequence(1, "UDU", 0);
        ShiftMaps car = Checks.quickCar();
        Checks.swing(car);
        Checks.drive(car, 20, 0, 2);
        car.byHand(true);
        Checks.due("down by hand while held", car.shift(false), 1);
        Checks.due("held as before", car.car(3), 28);
        Checks.due("counted once", car.count(6), 1);
        Checks.due("logged", car.change(0, 4), 0);
    }
}
