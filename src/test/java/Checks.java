/** Counts the answers that are not as due, and helps the tests to write calls shortly. */
final class Checks {
    /** Bits that are neither a speed nor a pedal: what is below 0.0f, and what is no number. */
    private static final int[] NO_FLOATS = {
        0x80000000, 0x80000001, 0x80800000, 0xbf800000, 0xc3960000, 0xff7fffff, 0xff800000, 0xff800001, 0xffc00000,
        0xffffffff, 0x7f7fffff, 0x7f800000, 0x7f800001, 0x7fc00000, 0x7fffffff
    };
    private static int asked = 0;
    private static int wrong = 0;

    private Checks() {
    }

    static void due(String call, long got, long want) {
        asked++;
        if (got != want) {
            report(call, String.valueOf(got), String.valueOf(want));
        }
    }

    /** Every bit counts, but for the bits of a NaN. */
    static void dueFloat(String call, float got, float want) {
        asked++;
        if (Float.floatToIntBits(got) != Float.floatToIntBits(want)) {
            report(call, String.valueOf(got), String.valueOf(want));
        }
    }

    static void isTrue(String what, boolean is) {
        asked++;
        if (!is) {
            report(what, "no", "yes");
        }
    }

    private static void report(String call, String got, String want) {
        wrong++;
        if (wrong <= 40) {
            System.out.println(call + " answered " + got + ", due is " + want);
        }
    }

    static void finish() {
        System.out.println(asked + " answers, " + wrong + " not as due");
        if (wrong != 0 || asked == 0) {
            System.exit(1);
        }
    }

    static int bits(double number) {
        return Float.floatToRawIntBits((float) number);
    }

    private static int[] with(int[] some, int... others) {
        int[] all = java.util.Arrays.copyOf(some, some.length + others.length);
        System.arraycopy(others, 0, all, some.length, others.length);
        return all;
    }

    static int[] noSpeeds() {
        return with(NO_FLOATS, bits(300) + 1, bits(301), bits(1000));
    }

    static int[] noPedals() {
        return with(NO_FLOATS, bits(1) + 1, bits(1.01), bits(2), bits(100));
    }

    /** The ends of what a pedal may be, and of the floats without a leading one. */
    static int[] edgePedals() {
        return new int[] {0, 1, 0x7fffff, 0x800000, bits(0.5), bits(1) - 1, bits(1)};
    }

    static int[] edgeSpeeds() {
        return with(edgePedals(), bits(1) + 1, bits(299), bits(300) - 1, bits(300));
    }

    static int drive(ShiftMaps car, double speed, double pedal, int ticks) {
        return car.drive(bits(speed), bits(pedal), ticks);
    }

    static void typeAll(ShiftMaps car, String text) {
        for (char character : text.toCharArray()) {
            car.type(character);
        }
    }

    /** A car whose changes take two ticks, so that a change may begin in every second one. */
    static ShiftMaps quickCar() {
        ShiftMaps car = new ShiftMaps();
        car.setNumber(1, 0);
        car.setNumber(0, 2);
        return car;
    }

    /** By hand in a gear, at the speed 10; each gear above 1 took five ticks. */
    static ShiftMaps carInGear(int gear) {
        ShiftMaps car = new ShiftMaps();
        car.byHand(true);
        for (int i = 1; i < gear; i++) {
            car.shift(true);
            drive(car, 10, 0, 5);
        }
        return car;
    }

    /** Up, down and up, begun in the ticks 0, 2 and 4; behind 5 ticks. */
    static void swing(ShiftMaps car) {
        drive(car, 20, 0, 2);
        drive(car, 5, 0, 2);
        drive(car, 20, 0, 1);
    }

    /** All that is told, but for the text and the history, as one text. */
    static String stateOf(ShiftMaps car) {
        StringBuilder told = new StringBuilder();
        for (int what = 0; what <= 6; what++) {
            told.append(car.car(what)).append(' ');
        }
        for (int clutch = 0; clutch < 5; clutch++) {
            told.append(car.pressed(clutch)).append(' ');
        }
        for (int gear = 1; gear <= 5; gear++) {
            for (int what = 0; what <= 3; what++) {
                told.append(car.map(gear, what)).append(' ');
            }
        }
        for (int which = 0; which <= 3; which++) {
            told.append(car.number(which)).append(' ');
        }
        for (int what = 0; what <= 12; what++) {
            told.append(car.count(what)).append(' ');
        }
        for (int back = 0; back < 10; back++) {
            for (int what = 0; what <= 4; what++) {
                told.append(car.change(back, what)).append(' ');
            }
        }
        return told.toString();
    }
}
