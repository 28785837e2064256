/** FLOATS and MAPS of the document: which bits are a speed or a pedal, and how is rounded. */
public final class FloatEdgesTest {
    private static final int MINUS_ZERO = 0x80000000;
    private static final int SPEED = 0x41200000;

    public static void main(String[] args) {
        speedsAreFrom0To300();
        pedalsAreFrom0To1();
        minusZeroIsNeither();
        speedsAreGivenByTheirBits();
        pedalsAreGivenByTheirBits();
        eachOperationIsRounded();
        wholeNumbersAreConvertedFirst();
        bordersAtTheEndsOfThePedal();
        gearsOfMapsAre1To4();
        gearsOfBoundsAre1To5();
        Checks.finish();
    }

    private static void speedsAreFrom0To300() {
        for (int bits : Checks.noSpeeds()) {
            ShiftMaps car = new ShiftMaps();
            String speed = "no speed " + Integer.toHexString(bits);
            Checks.due(speed + " of setMap", car.setMap(1, 0, bits), ShiftMaps.BAD_VALUE);
            Checks.due(speed + " of a bound", car.setMap(5, 3, bits), ShiftMaps.BAD_VALUE);
            Checks.due(speed + " of drive", car.drive(bits, 0, 1), ShiftMaps.BAD_VALUE);
            Checks.due(speed + " of wouldChoose", car.wouldChoose(bits, 0), ShiftMaps.BAD_VALUE);
            Checks.due(speed + " of settles", car.settles(bits, 0), ShiftMaps.BAD_VALUE);
            Checks.due(speed + " passes no tick", car.count(0), 0);
        }
        for (int bits : Checks.edgeSpeeds()) {
            ShiftMaps car = new ShiftMaps();
            int chosen = Float.intBitsToFloat(bits) > 15 ? 2 : ShiftMaps.NONE;
            int settled = chosen == 2 ? 16 : 0;
            String speed = "speed " + Integer.toHexString(bits);
            Checks.due(speed + " of wouldChoose", car.wouldChoose(bits, 0), chosen);
            Checks.due(speed + " of settles", car.settles(bits, 0), settled);
            Checks.due(speed + " of drive", car.drive(bits, 0, 1), chosen == 2 ? 1 : 0);
            Checks.due(speed + " of setMap", car.setMap(1, 2, bits), 1);
        }
    }

    private static void pedalsAreFrom0To1() {
        for (int bits : Checks.noPedals()) {
            ShiftMaps car = new ShiftMaps();
            String pedal = "no pedal " + Integer.toHexString(bits);
            Checks.due(pedal + " of drive", car.drive(SPEED, bits, 1), ShiftMaps.BAD_VALUE);
            Checks.due(pedal + " of wouldChoose", car.wouldChoose(SPEED, bits), ShiftMaps.BAD_VALUE);
            Checks.due(pedal + " of settles", car.settles(SPEED, bits), ShiftMaps.BAD_VALUE);
            Checks.dueFloat(pedal + " of border, up", car.border(1, bits, true), Float.NaN);
            Checks.dueFloat(pedal + " of border, down", car.border(1, bits, false), Float.NaN);
            Checks.due(pedal + " passes no tick", car.count(0), 0);
        }
        for (int bits : Checks.edgePedals()) {
            ShiftMaps car = new ShiftMaps();
            String pedal = "pedal " + Integer.toHexString(bits);
            Checks.due(pedal + " of wouldChoose", car.wouldChoose(SPEED, bits), ShiftMaps.NONE);
            Checks.due(pedal + " of settles", car.settles(SPEED, bits), 0);
            Checks.due(pedal + " of drive", car.drive(SPEED, bits, 1), 0);
            Checks.isTrue(pedal + " of border", car.border(1, bits, true) >= 15);
        }
    }

    private static void minusZeroIsNeither() {
        ShiftMaps car = new ShiftMaps();
        car.setMap(1, 0, Checks.bits(0));
        Checks.due("setMap, where it is 0.0f", car.setMap(1, 0, MINUS_ZERO), ShiftMaps.BAD_VALUE);
        Checks.due("speed of drive", car.drive(MINUS_ZERO, 0, 1), ShiftMaps.BAD_VALUE);
        Checks.due("pedal of drive", car.drive(0, MINUS_ZERO, 1), ShiftMaps.BAD_VALUE);
        Checks.due("speed of wouldChoose", car.wouldChoose(MINUS_ZERO, 0), ShiftMaps.BAD_VALUE);
        Checks.due("pedal of wouldChoose", car.wouldChoose(0, MINUS_ZERO), ShiftMaps.BAD_VALUE);
        Checks.due("speed of settles", car.settles(MINUS_ZERO, 0), ShiftMaps.BAD_VALUE);
        Checks.due("pedal of settles", car.settles(0, MINUS_ZERO), ShiftMaps.BAD_VALUE);
        Checks.dueFloat("pedal of border", car.border(1, MINUS_ZERO, true), Float.NaN);
        Checks.dueFloat("0.0f is one", car.border(1, 0, true), 0.0f);
    }

    private static void speedsAreGivenByTheirBits() {
        for (int bits : Checks.edgeSpeeds()) {
            ShiftMaps car = new ShiftMaps();
            car.setMap(5, 3, bits);
            Checks.dueFloat("bits " + Integer.toHexString(bits), car.map(5, 3), Float.intBitsToFloat(bits));
        }
        ShiftMaps powers = new ShiftMaps();
        for (int bits = 1; bits <= Checks.bits(300); bits += bits < 0x800000 ? bits : 0x800000 + bits / 1999) {
            powers.setMap(2, 1, bits);
            Checks.dueFloat("bits " + Integer.toHexString(bits), powers.map(2, 1), Float.intBitsToFloat(bits));
        }
    }

    /** Between the speeds 0 and 1 the speed to go up is the pedal itself. */
    private static void pedalsAreGivenByTheirBits() {
        ShiftMaps car = new ShiftMaps();
        car.setMap(1, 0, Checks.bits(0));
        car.setMap(1, 1, Checks.bits(1));
        car.setMap(1, 2, Checks.bits(0));
        for (int bits : Checks.edgePedals()) {
            Checks.dueFloat("up at " + Integer.toHexString(bits), car.border(1, bits, true),
                    Float.intBitsToFloat(bits));
            Checks.dueFloat("down at " + Integer.toHexString(bits), car.border(1, bits, false),
                    Float.intBitsToFloat(bits));
        }
    }

    private static void rounded(double low, double high, double pedal, double distance, int up, int down) {
        ShiftMaps car = new ShiftMaps();
        car.setMap(2, 0, Checks.bits(low));
        car.setMap(2, 1, Checks.bits(high));
        car.setMap(2, 2, Checks.bits(distance));
        String maps = low + " to " + high + " at " + pedal;
        Checks.dueFloat("up, " + maps, car.border(2, Checks.bits(pedal), true), Float.intBitsToFloat(up));
        Checks.dueFloat("down, " + maps, car.border(2, Checks.bits(pedal), false), Float.intBitsToFloat(down));
        // The gear 3 is reached at the border exactly, so that a tick is asked for the same bits.
        car.setMap(1, 0, Checks.bits(0));
        car.setMap(1, 1, Checks.bits(0));
        Checks.drive(car, 1, 0, 6);
        Checks.due("gear, " + maps, car.car(0), 2);
        Checks.due("at the border, " + maps, car.wouldChoose(up, Checks.bits(pedal)), ShiftMaps.NONE);
        Checks.due("above it, " + maps, car.wouldChoose(up + 1, Checks.bits(pedal)), 3);
        car.byHand(true);
        car.setMap(3, 0, Checks.bits(300));
        car.setMap(3, 1, Checks.bits(300));
        car.shift(true);
        Checks.drive(car, 1, 0, 5);
        car.byHand(false);
        Checks.due("gear, " + maps, car.car(0), 3);
        Checks.due("at the other, " + maps, car.wouldChoose(down, Checks.bits(pedal)), ShiftMaps.NONE);
        Checks.due("below it, " + maps, car.wouldChoose(down - 1, Checks.bits(pedal)), 2);
    }

    /** Doubles, one rounding for two operations, or another order would give other bits here. */
    private static void eachOperationIsRounded() {
        rounded(8.62, 54.54, 0.16, 7.44, 0x417f79a6, 0x41086f68);
        rounded(5.62, 84.31, 0.3, 15.36, 0x41e9d0e4, 0x415ddf39);
    }

    private static void wholeNumbersAreConvertedFirst() {
        ShiftMaps car = new ShiftMaps();
        car.setNumber(0, 10);
        car.setNumber(1, 3);
        Checks.drive(car, 20, 0, 10);
        Checks.dueFloat("closing, (9 - 3) / (10 - 3)", car.pressed(3), 0.85714287f);
        Checks.dueFloat("opening, 1.0f - 9 / 10", car.pressed(4), Float.intBitsToFloat(0x3dccccd0));
    }

    private static void bordersAtTheEndsOfThePedal() {
        ShiftMaps car = new ShiftMaps();
        float[] lows = {15f, 30f, 45f, 60f};
        float[] highs = {40f, 75f, 110f, 150f};
        float[] distances = {5f, 8f, 10f, 12f};
        for (int gear = 1; gear <= 4; gear++) {
            int row = gear - 1;
            Checks.dueFloat("up at 0", car.border(gear, 0, true), lows[row]);
            Checks.dueFloat("up at 1", car.border(gear, Checks.bits(1), true), highs[row]);
            Checks.dueFloat("down at 0", car.border(gear, 0, false), lows[row] - distances[row]);
            Checks.dueFloat("down at 1", car.border(gear, Checks.bits(1), false), highs[row] - distances[row]);
        }
        car.setMap(1, 1, Checks.bits(5));
        Checks.dueFloat("low above high", car.border(1, Checks.bits(0.5), true), 10f);
        car.setMap(1, 2, Checks.bits(300));
        Checks.dueFloat("below 0.0f", car.border(1, 0, false), -285f);
        car.setMap(1, 2, Checks.bits(0));
        Checks.dueFloat("no distance", car.border(1, 0, false), 15f);
    }

    private static void gearsOfMapsAre1To4() {
        ShiftMaps car = new ShiftMaps();
        int[] wrong = {Integer.MIN_VALUE, -1, 0, 5, 6, Integer.MAX_VALUE};
        for (int gear : wrong) {
            for (int what = 0; what <= 2; what++) {
                Checks.due("setMap of " + gear, car.setMap(gear, what, SPEED), ShiftMaps.UNKNOWN);
                Checks.dueFloat("map of " + gear, car.map(gear, what), Float.NaN);
            }
            Checks.dueFloat("border of " + gear, car.border(gear, 0, true), Float.NaN);
            Checks.dueFloat("border of " + gear, car.border(gear, 0, false), Float.NaN);
        }
        for (int what = 0; what <= 2; what++) {
            Checks.due("setMap of 1", car.setMap(1, what, SPEED), 1);
            Checks.due("setMap of 4", car.setMap(4, what, SPEED), 1);
            Checks.dueFloat("map of 1", car.map(1, what), 10f);
            Checks.dueFloat("map of 4", car.map(4, what), 10f);
        }
        Checks.dueFloat("the bounds stay", car.map(4, 3), 180f);
    }

    private static void gearsOfBoundsAre1To5() {
        ShiftMaps car = new ShiftMaps();
        int[] wrong = {Integer.MIN_VALUE, -1, 0, 6, 7, Integer.MAX_VALUE};
        for (int gear : wrong) {
            Checks.due("setMap of " + gear, car.setMap(gear, 3, SPEED), ShiftMaps.UNKNOWN);
            Checks.dueFloat("map of " + gear, car.map(gear, 3), Float.NaN);
        }
        Checks.due("setMap of 1", car.setMap(1, 3, SPEED), 1);
        Checks.due("setMap of 5", car.setMap(5, 3, SPEED), 1);
        Checks.dueFloat("map of 1", car.map(1, 3), 10f);
        Checks.dueFloat("map of 5", car.map(5, 3), 10f);
        Checks.dueFloat("the others stay", car.map(4, 3), 180f);
    }
}
