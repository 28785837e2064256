/** Promises 13 to 22: what is told. */
public final class ToldTest {
    private static final int[][] CLOSED = {{}, {0, 4}, {0, 3}, {0, 2}, {0, 1}, {1, 2}};

    public static void main(String[] args) {
        promise13Car();
        promise13WhatIs0To6();
        promise13ClutchesOfChanges();
        promise14Pressed();
        promise14PressedInEachGear();
        promise15Force();
        promise16Map();
        promise17Border();
        promise18Number();
        promise19WrongArguments();
        promise19WouldChoose();
        promise19InAChange();
        promise20WrongArguments();
        promise20Settles();
        promise20QuietTicks();
        promise20More();
        promise20NoneAbove200();
        promise21Change();
        promise21BackIsNotNegative();
        promise21WhatIs0To4();
        promise21NoneBehindTheFirst();
        promise21Ten();
        promise22Count();
        promise22WhatIs0To14();
        promise22TicksAreCountedBehindThem();
        promise22TheStatesAndTheText();
        toldCallsChangeNothing();
        Checks.finish();
    }

    private static void promise13Car() {
        ShiftMaps car = new ShiftMaps();
        Checks.drive(car, 20, 0, 3);
        int[] inChange = {1, 2, 2, 0, 0, 4, 3};
        for (int what = 0; what <= 6; what++) {
            Checks.due("in a change: car(" + what + ")", car.car(what), inChange[what]);
        }
        Checks.drive(car, 20, 0, 3);
        int[] behind = {2, -5, -5, 0, 0, -5, -5};
        for (int what = 0; what <= 6; what++) {
            Checks.due("behind it: car(" + what + ")", car.car(what), behind[what]);
        }
    }

    private static void promise13WhatIs0To6() {
        ShiftMaps car = new ShiftMaps();
        int[] wrong = {Integer.MIN_VALUE, -2, -1, 7, 8, Integer.MAX_VALUE};
        for (int what : wrong) {
            Checks.due("car(" + what + ")", car.car(what), ShiftMaps.BAD_VALUE);
        }
        Checks.due("car(6)", car.car(6), ShiftMaps.NONE);
        Checks.due("car(0)", car.car(0), 1);
    }

    private static void clutches(ShiftMaps car, int opens, int closes) {
        String change = car.car(0) + " to " + car.car(1);
        Checks.due("opens in " + change, car.car(5), opens);
        Checks.due("closes in " + change, car.car(6), closes);
    }

    private static void promise13ClutchesOfChanges() {
        int[][] up = {{}, {4, 3}, {3, 2}, {2, 1}, {0, 2}};
        for (int gear = 1; gear <= 4; gear++) {
            ShiftMaps car = Checks.carInGear(gear);
            car.shift(true);
            clutches(car, up[gear][0], up[gear][1]);
            ShiftMaps back = Checks.carInGear(gear + 1);
            back.shift(false);
            clutches(back, up[gear][1], up[gear][0]);
        }
        int[][] kickdown = {{}, {}, {}, {2, 4}, {1, 3}, {1, 0}};
        for (int gear = 3; gear <= 5; gear++) {
            ShiftMaps car = Checks.carInGear(gear);
            Checks.drive(car, 10, 1, 1);
            Checks.due("two gears", car.car(1), gear - 2);
            clutches(car, kickdown[gear][0], kickdown[gear][1]);
        }
    }

    private static void promise14Pressed() {
        for (int time = 2; time <= 20; time++) {
            for (int lag = 0; lag < time; lag++) {
                ShiftMaps car = new ShiftMaps();
                car.setNumber(0, 20);
                car.setNumber(1, lag);
                car.setNumber(0, time);
                Checks.drive(car, 20, 0, 1);
                for (int k = 0; k < time; k++) {
                    float closing = k <= lag ? 0.0f : (float) (k - lag) / (float) (time - lag);
                    float opening = 1.0f - (float) k / (float) time;
                    Checks.dueFloat("opening", car.pressed(4), opening);
                    Checks.dueFloat("closing", car.pressed(3), closing);
                    Checks.dueFloat("stays closed", car.pressed(0), 1.0f);
                    Checks.dueFloat("stays open", car.pressed(1), 0.0f);
                    Checks.dueFloat("stays open", car.pressed(2), 0.0f);
                    Checks.dueFloat("force", car.force(), opening >= closing ? opening : closing);
                    Checks.drive(car, 20, 0, 1);
                }
                Checks.dueFloat("open", car.pressed(4), 0.0f);
                Checks.dueFloat("closed", car.pressed(3), 1.0f);
            }
        }
    }

    private static void promise14PressedInEachGear() {
        for (int gear = 1; gear <= 5; gear++) {
            ShiftMaps car = Checks.carInGear(gear);
            for (int clutch = 0; clutch < 5; clutch++) {
                boolean closed = clutch == CLOSED[gear][0] || clutch == CLOSED[gear][1];
                Checks.dueFloat("gear " + gear, car.pressed(clutch), closed ? 1f : 0f);
            }
            int[] bad = {-1, 5, Integer.MIN_VALUE, Integer.MAX_VALUE};
            for (int clutch : bad) {
                Checks.dueFloat("clutch " + clutch, car.pressed(clutch), Float.NaN);
            }
        }
    }

    private static void promise15Force() {
        ShiftMaps car = new ShiftMaps();
        Checks.drive(car, 20, 0, 1);
        float[] force = {1f, 0.8f, 0.6f, 0.5f, 0.75f};
        force[1] = 1f - 1f / 5f;
        force[2] = 1f - 2f / 5f;
        for (float due : force) {
            Checks.dueFloat("force", car.force(), due);
            Checks.drive(car, 20, 0, 1);
        }
        Checks.dueFloat("without a change", car.force(), 1f);
    }

    private static void promise16Map() {
        ShiftMaps car = new ShiftMaps();
        Checks.dueFloat("bound of 5", car.map(5, 3), 300f);
        int[][] bad = {
            {0, 0}, {5, 0}, {5, 1}, {5, 2}, {6, 3}, {0, 3}, {-1, 1}, {1, 4}, {1, -1},
            {Integer.MAX_VALUE, 3}, {Integer.MIN_VALUE, 0}, {1, Integer.MAX_VALUE}, {1, Integer.MIN_VALUE}
        };
        for (int[] arguments : bad) {
            Checks.dueFloat("map", car.map(arguments[0], arguments[1]), Float.NaN);
        }
        car.setMap(4, 1, Checks.bits(0.1f));
        Checks.dueFloat("as set", car.map(4, 1), 0.1f);
        Checks.dueFloat("others stay", car.map(4, 0), 60f);
        Checks.dueFloat("others stay", car.map(3, 1), 110f);
    }

    private static void promise17Border() {
        ShiftMaps car = new ShiftMaps();
        float[] lows = {15f, 30f, 45f, 60f};
        float[] highs = {40f, 75f, 110f, 150f};
        float[] distances = {5f, 8f, 10f, 12f};
        float[] pedals = {0f, 1f, 0.1f, 0.33f, 0.7f, 0.95f, Float.MIN_VALUE, Math.nextDown(1f)};
        lows[2] = 44.44f;
        highs[2] = 3.3f;
        distances[2] = 77.7f;
        car.setMap(3, 0, Checks.bits(lows[2]));
        car.setMap(3, 1, Checks.bits(highs[2]));
        car.setMap(3, 2, Checks.bits(distances[2]));
        for (int gear = 1; gear <= 4; gear++) {
            for (float pedal : pedals) {
                float difference = highs[gear - 1] - lows[gear - 1];
                float product = difference * pedal;
                float up = lows[gear - 1] + product;
                float down = up - distances[gear - 1];
                Checks.dueFloat("up", car.border(gear, Checks.bits(pedal), true), up);
                Checks.dueFloat("down", car.border(gear, Checks.bits(pedal), false), down);
            }
        }
        int[] bad = {0, 5, -1, Integer.MAX_VALUE, Integer.MIN_VALUE};
        for (int gear : bad) {
            Checks.dueFloat("gear", car.border(gear, 0, true), Float.NaN);
        }
        int[] badPedals = {Checks.bits(1) + 1, Integer.MIN_VALUE, -1, Checks.bits(Float.NaN)};
        for (int pedal : badPedals) {
            Checks.dueFloat("pedal", car.border(1, pedal, true), Float.NaN);
            Checks.dueFloat("pedal", car.border(1, pedal, false), Float.NaN);
        }
    }

    private static void promise18Number() {
        ShiftMaps car = new ShiftMaps();
        Checks.due("-1", car.number(-1), ShiftMaps.UNKNOWN);
        Checks.due("4", car.number(4), ShiftMaps.UNKNOWN);
        Checks.due("far", car.number(Integer.MAX_VALUE), ShiftMaps.UNKNOWN);
        Checks.due("far", car.number(Integer.MIN_VALUE), ShiftMaps.UNKNOWN);
        car.setNumber(1, 0);
        Checks.due("lag", car.number(1), 0);
        Checks.due("time", car.number(0), 5);
        Checks.due("window", car.number(2), 20);
        Checks.due("hold", car.number(3), 30);
    }

    private static int would(ShiftMaps car, double speed, double pedal) {
        return car.wouldChoose(Checks.bits(speed), Checks.bits(pedal));
    }

    private static void promise19WrongArguments() {
        ShiftMaps car = new ShiftMaps();
        Checks.due("speed", would(car, 301, 0), ShiftMaps.BAD_VALUE);
        Checks.due("pedal", would(car, 20, 2), ShiftMaps.BAD_VALUE);
        Checks.due("both", would(car, 301, 2), ShiftMaps.BAD_VALUE);
        Checks.due("the greatest ones", would(car, 300, 1), 2);
        Checks.due("the least ones", would(car, 0, 0), ShiftMaps.NONE);
    }

    private static void promise19WouldChoose() {
        ShiftMaps car = new ShiftMaps();
        Checks.due("none", would(car, 15, 0), ShiftMaps.NONE);
        Checks.due("up", would(car, 16, 0), 2);
        Checks.due("guard", would(car, 51, 1), 2);
        ShiftMaps four = Checks.carInGear(4);
        Checks.due("kickdown", would(four, 60, 1), 2);
        Checks.due("nothing else by hand", would(four, 0, 0), ShiftMaps.NONE);
        four.byHand(false);
        Checks.due("down", would(four, 0, 0), 3);
        ShiftMaps held = Checks.quickCar();
        Checks.swing(held);
        Checks.drive(held, 20, 0, 3);
        Checks.due("held", would(held, 5, 0), ShiftMaps.NONE);
        Checks.drive(held, 20, 0, 26);
        Checks.due("held for a tick", held.car(3), 1);
        Checks.due("held still", would(held, 5, 0), ShiftMaps.NONE);
        Checks.drive(held, 20, 0, 1);
        Checks.due("no more", would(held, 5, 0), 1);
    }

    private static void promise19InAChange() {
        ShiftMaps car = new ShiftMaps();
        Checks.drive(car, 40, 0, 1);
        for (int done = 0; done < 4; done++) {
            Checks.due("not over", would(car, 40, 0), ShiftMaps.NONE);
            Checks.drive(car, 40, 0, 1);
        }
        Checks.due("over by this tick", would(car, 40, 0), 3);
        Checks.due("back again", would(car, 0, 0), 1);
        Checks.due("kickdown from the new gear", would(car, 40, 1), 1);
        Checks.due("still in the change", car.car(0), 1);
    }

    private static int settles(ShiftMaps car, double speed, double pedal) {
        return car.settles(Checks.bits(speed), Checks.bits(pedal));
    }

    private static void promise20WrongArguments() {
        ShiftMaps car = new ShiftMaps();
        Checks.due("speed", settles(car, 301, 0), ShiftMaps.BAD_VALUE);
        Checks.due("pedal", settles(car, 1, 1.5), ShiftMaps.BAD_VALUE);
        Checks.due("both", settles(car, 301, 2), ShiftMaps.BAD_VALUE);
        Checks.due("the greatest ones", settles(car, 300, 1), 16);
        Checks.due("the least ones", settles(car, 0, 0), 0);
    }

    private static void promise20Settles() {
        ShiftMaps car = new ShiftMaps();
        Checks.due("none", settles(car, 10, 0), 0);
        Checks.due("the first tick", settles(car, 20, 0), 1);
        Checks.due("two", settles(car, 40, 0), 6);
        Checks.due("three", settles(car, 50, 0), 11);
        Checks.due("four", settles(car, 100, 0), 16);
        Checks.drive(car, 40, 0, 3);
        Checks.due("in a change", settles(car, 40, 0), 3);
        Checks.due("nothing behind it", settles(car, 25, 0), 0);
        ShiftMaps four = Checks.carInGear(4);
        Checks.due("kickdown alone", settles(four, 60, 1), 1);
        four.byHand(false);
        Checks.due("kickdown, and up again", settles(four, 80, 1), 6);
    }

    private static void promise20QuietTicks() {
        ShiftMaps car = Checks.quickCar();
        car.setNumber(3, 100);
        Checks.swing(car);
        Checks.due("held for 100", car.car(3), 100);
        Checks.due("none in the first 100", settles(car, 0, 0), 0);
        Checks.drive(car, 20, 0, 1);
        Checks.due("the 100th", settles(car, 0, 0), 100);
        for (int hold = 99; hold <= 100; hold++) {
            ShiftMaps next = Checks.quickCar();
            next.setNumber(3, hold);
            Checks.drive(next, 20, 0, 2);
            Checks.drive(next, 5, 0, 2);
            Checks.due("held in the forecast", settles(next, 45, 0), hold == 99 ? 101 : 1);
        }
    }

    private static void promise20More() {
        ShiftMaps car = new ShiftMaps();
        car.setMap(1, 3, Checks.bits(10));
        car.setMap(1, 0, Checks.bits(40));
        Checks.due("guard and down, for ever", settles(car, 12, 0), ShiftMaps.NONE);
        Checks.due("in another state", settles(car, 9, 0), 0);
        ShiftMaps slow = new ShiftMaps();
        slow.setNumber(0, 20);
        slow.setNumber(3, 100);
        slow.setNumber(2, 100);
        Checks.drive(slow, 20, 0, 20);
        Checks.drive(slow, 5, 0, 20);
        Checks.drive(slow, 20, 0, 20);
        Checks.drive(slow, 5, 0, 1);
        Checks.due("held", slow.car(3), 80);
        Checks.due("more than 100, but not more than 200", settles(slow, 80, 0), 121);
    }

    /** Held for 97 ticks in the gear 5; the change behind them holds for so many ticks as the hold is then. */
    private static ShiftMaps carToGoDown(int hold) {
        ShiftMaps car = Checks.quickCar();
        car.setNumber(2, 100);
        car.setNumber(3, 97);
        car.byHand(true);
        for (int i = 0; i < 3; i++) {
            car.shift(true);
            Checks.drive(car, 10, 0, 2);
        }
        car.byHand(false);
        Checks.drive(car, 61, 0, 2);
        Checks.drive(car, 47, 0, 2);
        Checks.drive(car, 61, 0, 1);
        Checks.due("held", car.car(3), 97);
        car.setNumber(3, hold);
        return car;
    }

    private static void promise20NoneAbove200() {
        Checks.due("199", settles(carToGoDown(96), 0, 0), 199);
        Checks.due("200", settles(carToGoDown(97), 0, 0), 200);
        Checks.due("201", settles(carToGoDown(98), 0, 0), ShiftMaps.NONE);
        Checks.due("202", settles(carToGoDown(99), 0, 0), ShiftMaps.NONE);
        Checks.due("quiet for 100", settles(carToGoDown(100), 0, 0), 98);
        ShiftMaps driven = carToGoDown(97);
        Checks.due("98 ticks", Checks.drive(driven, 0, 0, 98), 1);
        Checks.due("199 ticks", Checks.drive(driven, 0, 0, 99) + Checks.drive(driven, 0, 0, 2), 2);
        Checks.due("200 ticks", Checks.drive(driven, 0, 0, 1), 1);
        Checks.due("gear", driven.car(1), 1);
    }

    private static void promise21Change() {
        ShiftMaps car = Checks.quickCar();
        Checks.swing(car);
        int[][] due = {{4, 1, 2, 0, 1}, {2, 2, 1, 1, 0}, {0, 1, 2, 0, 0}};
        for (int back = 0; back < 3; back++) {
            for (int what = 0; what < 5; what++) {
                Checks.due("change(" + back + ", " + what + ")", car.change(back, what), due[back][what]);
            }
        }
    }

    private static void promise21BackIsNotNegative() {
        ShiftMaps car = Checks.quickCar();
        int[] negative = {Integer.MIN_VALUE, -10, -2, -1};
        for (int back : negative) {
            Checks.due("back " + back + " of none", car.change(back, 0), ShiftMaps.BAD_VALUE);
        }
        Checks.swing(car);
        for (int back : negative) {
            Checks.due("back " + back, car.change(back, 4), ShiftMaps.BAD_VALUE);
        }
        Checks.due("back 0", car.change(0, 0), 4);
    }

    private static void promise21WhatIs0To4() {
        ShiftMaps car = Checks.quickCar();
        int[] wrong = {Integer.MIN_VALUE, -2, -1, 5, 6, Integer.MAX_VALUE};
        for (int what : wrong) {
            Checks.due("what " + what + " of none", car.change(0, what), ShiftMaps.BAD_VALUE);
        }
        Checks.swing(car);
        for (int what : wrong) {
            Checks.due("what " + what, car.change(1, what), ShiftMaps.BAD_VALUE);
            Checks.due("what " + what + ", far back", car.change(99, what), ShiftMaps.BAD_VALUE);
        }
        Checks.due("what 0", car.change(0, 0), 4);
        Checks.due("what 4", car.change(0, 4), 1);
    }

    private static void promise21NoneBehindTheFirst() {
        ShiftMaps car = Checks.quickCar();
        Checks.due("new", car.change(0, 0), ShiftMaps.NONE);
        Checks.swing(car);
        Checks.due("the first", car.change(2, 2), 2);
        Checks.due("behind it", car.change(3, 0), ShiftMaps.NONE);
        Checks.due("9", car.change(9, 0), ShiftMaps.NONE);
        Checks.due("10", car.change(10, 0), ShiftMaps.NONE);
        Checks.due("far", car.change(Integer.MAX_VALUE, 4), ShiftMaps.NONE);
    }

    private static void promise21Ten() {
        ShiftMaps car = Checks.quickCar();
        car.byHand(true);
        for (int i = 0; i < 13; i++) {
            car.shift(i % 2 == 0);
            Checks.drive(car, 10, 0, 2);
        }
        for (int back = 0; back < 10; back++) {
            Checks.due("tick", car.change(back, 0), (12 - back) * 2);
            Checks.due("new gear", car.change(back, 2), (12 - back) % 2 == 0 ? 2 : 1);
        }
        Checks.due("the 11th is not known", car.change(10, 0), ShiftMaps.NONE);
        Checks.due("all are counted", car.count(4), 13);
    }

    private static void promise22Count() {
        ShiftMaps car = Checks.quickCar();
        Checks.swing(car);
        Checks.drive(car, 20, 0, 1);
        Checks.drive(car, 20, 1, 3);
        Checks.drive(car, 60, 1, 4);
        car.byHand(true);
        car.shift(true);
        Checks.typeAll(car, "1,");
        int[] due = {13, 2, 1, 1, 1, 1, 1, 7, 6, 0, 0, 0, 10, 4, 2};
        for (int what = 0; what <= 14; what++) {
            Checks.due("count(" + what + ")", car.count(what), due[what]);
        }
        for (int gear = 1; gear <= 5; gear++) {
            ShiftMaps in = Checks.carInGear(gear);
            int before = in.count(6 + gear);
            Checks.drive(in, 10, 0, 7);
            Checks.due("ticks in gear " + gear, in.count(6 + gear), before + 7);
        }
    }

    private static void promise22WhatIs0To14() {
        ShiftMaps car = new ShiftMaps();
        int[] wrong = {Integer.MIN_VALUE, -2, -1, 15, 16, Integer.MAX_VALUE};
        for (int what : wrong) {
            Checks.due("count(" + what + ")", car.count(what), ShiftMaps.BAD_VALUE);
        }
        for (int what = 0; what <= 14; what++) {
            Checks.due("count(" + what + ")", car.count(what), 0);
        }
    }

    private static void counts(ShiftMaps car, String when, int inOne, int inTwo, int inChange) {
        Checks.due(when + ": in 1", car.count(7), inOne);
        Checks.due(when + ": in 2", car.count(8), inTwo);
        Checks.due(when + ": in a change", car.count(12), inChange);
    }

    private static void promise22TicksAreCountedBehindThem() {
        ShiftMaps car = new ShiftMaps();
        counts(car, "new", 0, 0, 0);
        Checks.drive(car, 20, 0, 1);
        counts(car, "begun", 1, 0, 1);
        Checks.drive(car, 20, 0, 4);
        counts(car, "not over", 5, 0, 5);
        Checks.drive(car, 20, 0, 1);
        counts(car, "over", 5, 1, 5);
        Checks.drive(car, 20, 0, 3);
        counts(car, "behind it", 5, 4, 5);
        car.byHand(true);
        car.shift(false);
        counts(car, "by hand, without a tick", 5, 4, 5);
        Checks.drive(car, 20, 0, 1);
        counts(car, "by hand, behind a tick", 5, 5, 6);
        Checks.drive(car, 20, 0, 4);
        counts(car, "over again", 6, 8, 9);
        ShiftMaps next = new ShiftMaps();
        Checks.drive(next, 40, 0, 6);
        counts(next, "over, and the next one begun", 5, 1, 6);
    }

    private static void promise22TheStatesAndTheText() {
        ShiftMaps car = new ShiftMaps();
        for (int i = 1; i <= 61; i++) {
            car.type('9');
            Checks.due("length", car.count(14), Math.min(i, 60));
        }
        car.clearText();
        Checks.due("no length", car.count(14), 0);
        for (int i = 1; i <= 6; i++) {
            car.setNumber(3, 30 + i);
            Checks.due("states", car.count(13), Math.min(i, 4));
        }
        for (int left = 3; left >= 0; left--) {
            car.undo();
            Checks.due("states left", car.count(13), left);
        }
        car.undo();
        Checks.due("none left", car.count(13), 0);
    }

    private static void toldCallsChangeNothing() {
        ShiftMaps car = new ShiftMaps();
        Checks.drive(car, 40, 0, 3);
        String before = Checks.stateOf(car);
        would(car, 200, 1);
        settles(car, 200, 1);
        car.border(1, 0, true);
        Checks.isTrue("told calls change nothing", before.equals(Checks.stateOf(car)));
        Checks.due("and record nothing", car.count(13), 1);
    }
}
