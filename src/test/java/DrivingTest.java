/** Promises 5 and 7, and the terms behind them: drive, shift, ticks, changes, the held gear. */
public final class DrivingTest {
    private static final double DEEP = 0.95f;
    private static final double NOT_DEEP = Math.nextDown(0.95f);

    public static void main(String[] args) {
        promise5WrongArguments();
        promise5TicksAre1To99();
        promise5TicksOfAChange();
        promise5UpEdges();
        promise5DownEdges();
        promise5GuardEdges();
        promise5GuardIsFirst();
        promise5KickdownGears();
        promise5KickdownPedal();
        promise5KickdownByHand();
        promise5NothingElseByHand();
        promise5ChoosesInTheTickThatEndsAChange();
        promise5HoldsTheGear();
        promise5WindowEdges();
        promise5OnlyAlternatingUpAndDownHold();
        promise5GuardAndKickdownWhileHeld();
        promise5FullAbove99999();
        promise6FullAbove99999();
        forecastsAtTheLastTick();
        promise5IsAnAct();
        promise7Shifts();
        promise7OnlyByHand();
        promise7NotInAChange();
        promise7GearsAre1To5();
        promise7BoundOfTheNewGear();
        promise7AheadOfTheFirstTick();
        promise7NeverHolds();
        Checks.finish();
    }

    private static void promise5WrongArguments() {
        ShiftMaps car = new ShiftMaps();
        int speed = Checks.bits(20);
        Checks.due("speed", car.drive(Checks.bits(300) + 1, 0, 1), ShiftMaps.BAD_VALUE);
        Checks.due("-0.0f", car.drive(Checks.bits(-0.0f), 0, 1), ShiftMaps.BAD_VALUE);
        Checks.due("NaN", car.drive(Checks.bits(Float.NaN), 0, 1), ShiftMaps.BAD_VALUE);
        Checks.due("pedal", car.drive(speed, Checks.bits(1) + 1, 1), ShiftMaps.BAD_VALUE);
        Checks.due("pedal -0.0f", car.drive(speed, Integer.MIN_VALUE, 1), ShiftMaps.BAD_VALUE);
        Checks.due("pedal NaN", car.drive(speed, Checks.bits(Float.NaN), 1), ShiftMaps.BAD_VALUE);
        Checks.due("no tick passed", car.count(0), 0);
        Checks.due("nothing recorded", car.count(13), 0);
        Checks.due("greatest", car.drive(Checks.bits(300), Checks.bits(1), 99), 4);
    }

    private static void promise5TicksAre1To99() {
        ShiftMaps car = new ShiftMaps();
        int[] wrong = {Integer.MIN_VALUE, -99, -1, 0, 100, 101, Integer.MAX_VALUE};
        for (int ticks : wrong) {
            Checks.due(ticks + " ticks", car.drive(Checks.bits(20), 0, ticks), ShiftMaps.BAD_VALUE);
        }
        Checks.due("no tick passed", car.count(0), 0);
        Checks.due("1 tick", car.drive(Checks.bits(20), 0, 1), 1);
        Checks.due("1 tick passed", car.count(0), 1);
        Checks.due("99 ticks", car.drive(Checks.bits(20), 0, 99), 0);
        Checks.due("99 ticks passed", car.count(0), 100);
    }

    private static void promise5TicksOfAChange() {
        ShiftMaps car = new ShiftMaps();
        Checks.due("begins", Checks.drive(car, 20, 0, 1), 1);
        for (int done = 0; done < 5; done++) {
            Checks.due("ticks so far", car.car(2), done);
            Checks.due("old gear", car.car(0), 1);
            Checks.due("new gear", car.car(1), 2);
            Checks.drive(car, 20, 0, 1);
        }
        Checks.due("gear", car.car(0), 2);
        Checks.due("no change", car.car(2), ShiftMaps.NONE);
    }

    private static void promise5UpEdges() {
        ShiftMaps car = new ShiftMaps();
        float border = 15f + (40f - 15f) * 0.3f;
        Checks.due("at the border", Checks.drive(car, border, 0.3f, 1), 0);
        Checks.due("above it", Checks.drive(car, Math.nextUp(border), 0.3f, 1), 1);
        Checks.due("up", car.change(0, 3), 0);
        ShiftMaps last = new ShiftMaps();
        Checks.due("as far as 5", Checks.drive(last, 290, 0, 99), 4);
        Checks.due("gear 5", last.car(0), 5);
        Checks.due("not beyond 5", Checks.drive(last, 300, 0, 50), 0);
    }

    private static void promise5DownEdges() {
        ShiftMaps car = new ShiftMaps();
        Checks.drive(car, 20, 0, 6);
        float border = 15f + (40f - 15f) * 0.1f - 5f;
        Checks.due("at the border", Checks.drive(car, border, 0.1f, 1), 0);
        Checks.due("below it", Checks.drive(car, Math.nextDown(border), 0.1f, 1), 1);
        Checks.due("down", car.change(0, 3), 1);
        Checks.due("to 1", car.car(1), 1);
        Checks.due("not below 1", Checks.drive(car, 0, 0, 50), 0);
        Checks.due("gear 1", car.car(0), 1);
    }

    private static void promise5GuardEdges() {
        ShiftMaps car = new ShiftMaps();
        for (int gear = 1; gear <= 4; gear++) {
            car.setMap(gear, 0, Checks.bits(300));
            car.setMap(gear, 1, Checks.bits(300));
        }
        Checks.due("at the bound", Checks.drive(car, 50, 0, 3), 0);
        Checks.due("above it", Checks.drive(car, Math.nextUp(50f), 0, 1), 1);
        Checks.due("guard", car.change(0, 3), 4);
        Checks.due("one gear", car.change(0, 2), 2);
        Checks.due("counted", car.count(5), 1);
    }

    private static void promise5GuardIsFirst() {
        ShiftMaps car = new ShiftMaps();
        Checks.drive(car, 40, 0, 12);
        Checks.due("gear", car.car(0), 3);
        Checks.due("guard ahead of kickdown", Checks.drive(car, 131, 1, 1), 1);
        Checks.due("why", car.change(0, 3), 4);
        ShiftMaps up = new ShiftMaps();
        Checks.drive(up, 51, 0, 1);
        Checks.due("guard ahead of up", up.change(0, 3), 4);
        ShiftMaps hand = new ShiftMaps();
        hand.byHand(true);
        Checks.due("guard by hand", Checks.drive(hand, 51, 0, 1), 1);
        ShiftMaps five = new ShiftMaps();
        Checks.drive(five, 290, 0, 40);
        five.setMap(5, 3, Checks.bits(100));
        Checks.due("no guard in 5", Checks.drive(five, 290, 0, 20), 0);
    }

    private static void kickdown(double speed, int gear) {
        ShiftMaps car = Checks.carInGear(4);
        Checks.due("kickdown begins at " + speed, Checks.drive(car, speed, 1, 1), gear > 0 ? 1 : 0);
        Checks.due("kickdown at " + speed, car.car(1), gear > 0 ? gear : ShiftMaps.NONE);
    }

    private static void promise5KickdownGears() {
        kickdown(0, 2);
        kickdown(90, 2);
        kickdown(Math.nextUp(90f), 3);
        kickdown(130, 3);
        kickdown(Math.nextUp(130f), 0);
        ShiftMaps two = new ShiftMaps();
        Checks.drive(two, 20, 0, 6);
        Checks.drive(two, 20, 1, 1);
        Checks.due("from 2 to 1", two.car(1), 1);
        ShiftMaps slow = new ShiftMaps();
        Checks.drive(slow, 20, 0, 6);
        Checks.drive(slow, 0, 1, 1);
        Checks.due("from 2 to 1, standing", slow.car(1), 1);
        Checks.due("by kickdown", slow.change(0, 3), 2);
        ShiftMaps one = new ShiftMaps();
        Checks.due("none from 1", Checks.drive(one, 10, 1, 1), 0);
        ShiftMaps odd = Checks.carInGear(4);
        odd.setMap(3, 3, Checks.bits(1));
        Checks.drive(odd, 80, 1, 1);
        Checks.due("the lowest counts alone", odd.car(1), 2);
    }

    private static void promise5KickdownPedal() {
        ShiftMaps car = Checks.carInGear(4);
        Checks.due("not deep", Checks.drive(car, 60, NOT_DEEP, 1), 0);
        Checks.due("deep", Checks.drive(car, 60, DEEP, 1), 1);
        Checks.due("why", car.change(0, 3), 2);
        Checks.due("still deep", Checks.drive(car, 60, 1, 20), 0);
        Checks.due("gear", car.car(0), 2);
        Checks.drive(car, 60, 0.5, 1);
        Checks.due("once more", Checks.drive(car, 30, DEEP, 1), 1);
        ShiftMaps missed = new ShiftMaps();
        Checks.drive(missed, 20, 0, 3);
        Checks.drive(missed, 40, 1, 3);
        Checks.due("pressed in a change, missed", missed.count(3), 0);
        ShiftMaps ended = new ShiftMaps();
        Checks.drive(ended, 20, 0, 5);
        Checks.drive(ended, 30, 1, 1);
        Checks.due("pressed in the tick that ends it", ended.change(0, 3), 2);
    }

    private static void promise5KickdownByHand() {
        ShiftMaps car = Checks.carInGear(4);
        Checks.due("by hand", car.car(4), 1);
        Checks.drive(car, 60, 1, 1);
        Checks.due("kickdown", car.change(0, 3), 2);
        Checks.due("counted", car.count(3), 1);
        ShiftMaps ahead = new ShiftMaps();
        Checks.drive(ahead, 16, 0, 6);
        Checks.drive(ahead, 60, 1, 1);
        Checks.due("no such bound: up instead", ahead.change(0, 3), 0);
        ShiftMaps both = new ShiftMaps();
        both.setMap(1, 1, Checks.bits(15));
        Checks.drive(both, 16, 0, 6);
        both.setMap(2, 1, Checks.bits(30));
        Checks.drive(both, 40, 1, 1);
        Checks.due("kickdown ahead of up", both.change(0, 3), 2);
    }

    private static void promise5NothingElseByHand() {
        ShiftMaps car = new ShiftMaps();
        car.byHand(true);
        Checks.due("no up", Checks.drive(car, 45, 0, 20), 0);
        car.shift(true);
        Checks.drive(car, 0, 0, 5);
        Checks.due("no down", Checks.drive(car, 0, 0, 20), 0);
    }

    private static void promise5ChoosesInTheTickThatEndsAChange() {
        ShiftMaps car = new ShiftMaps();
        Checks.drive(car, 40, 0, 1);
        Checks.due("none in the change", Checks.drive(car, 40, 0, 4), 0);
        Checks.due("the next one at its end", Checks.drive(car, 40, 0, 1), 1);
        Checks.due("old gear", car.change(0, 1), 2);
        Checks.due("new gear", car.change(0, 2), 3);
        Checks.due("tick", car.change(0, 0), 5);
        Checks.due("behind 0 ticks", car.car(2), 0);
    }

    private static void promise5HoldsTheGear() {
        ShiftMaps car = Checks.quickCar();
        Checks.swing(car);
        Checks.due("held", car.car(3), 30);
        Checks.due("counted", car.count(6), 1);
        Checks.due("logged", car.change(0, 4), 1);
        Checks.due("not by the one before", car.change(1, 4), 0);
        Checks.due("one less", Checks.drive(car, 5, 0, 1), 0);
        Checks.due("one less", car.car(3), 29);
        Checks.due("nothing while it is held", Checks.drive(car, 5, 0, 29), 0);
        Checks.due("not held", car.car(3), 0);
        Checks.due("down then", Checks.drive(car, 5, 0, 1), 1);
        Checks.due("tick", car.change(0, 0), 35);
        Checks.due("not within the window", car.change(0, 4), 0);
        Checks.drive(car, 5, 0, 9);
        Checks.due("never below 0", car.car(3), 0);
    }

    private static void window(int window, int held) {
        ShiftMaps car = Checks.quickCar();
        car.setNumber(2, window);
        car.setNumber(3, 7);
        Checks.swing(car);
        Checks.due("held with the window " + window, car.car(3), held);
    }

    private static void promise5WindowEdges() {
        window(3, 0);
        window(4, 7);
        window(5, 7);
        ShiftMaps car = Checks.quickCar();
        Checks.drive(car, 20, 0, 2);
        Checks.drive(car, 5, 0, 2);
        Checks.drive(car, 12, 0, 16);
        Checks.drive(car, 20, 0, 1);
        Checks.due("20 ticks ago", car.change(0, 0), 20);
        Checks.due("held", car.car(3), 30);
        ShiftMaps late = Checks.quickCar();
        Checks.drive(late, 10, 0, 50);
        Checks.swing(late);
        Checks.due("begun in the tick 54", late.change(0, 0), 54);
        Checks.due("held in later ticks too", late.car(3), 30);
    }

    private static void promise5OnlyAlternatingUpAndDownHold() {
        ShiftMaps same = Checks.quickCar();
        Checks.drive(same, 50, 0, 5);
        Checks.due("three up", same.count(1), 3);
        Checks.due("do not hold", same.car(3), 0);
        Checks.drive(same, 0, 0, 5);
        Checks.due("up, down, down do not hold", same.count(6), 0);
        ShiftMaps guarded = Checks.quickCar();
        guarded.setMap(1, 3, Checks.bits(14));
        Checks.swing(guarded);
        Checks.due("guard, down, guard", guarded.count(5), 2);
        Checks.due("do not hold", guarded.count(6), 0);
        ShiftMaps first = Checks.quickCar();
        first.byHand(true);
        first.shift(true);
        first.byHand(false);
        Checks.drive(first, 5, 0, 2);
        Checks.drive(first, 20, 0, 2);
        Checks.due("hand, down, up do not hold", first.count(6), 0);
        Checks.drive(first, 5, 0, 2);
        Checks.due("but the next one does", first.count(6), 1);
        Checks.due("down held it", first.change(0, 3), 1);
        ShiftMaps middle = Checks.quickCar();
        Checks.drive(middle, 20, 0, 2);
        Checks.drive(middle, 12, 1, 1);
        Checks.due("kickdown", middle.change(0, 3), 2);
        Checks.drive(middle, 20, 0, 3);
        Checks.due("up, kickdown, up do not hold", middle.count(6), 0);
    }

    private static void promise5GuardAndKickdownWhileHeld() {
        ShiftMaps car = Checks.quickCar();
        Checks.swing(car);
        Checks.drive(car, 20, 0, 1);
        Checks.due("kickdown while held", Checks.drive(car, 20, 1, 1), 1);
        Checks.due("why", car.change(0, 3), 2);
        Checks.due("still held", car.car(3), 28);
        Checks.drive(car, 20, 1, 1);
        Checks.due("guard while held", Checks.drive(car, 60, 1, 1), 1);
        Checks.due("why", car.change(0, 3), 4);
        Checks.due("still held", car.car(3), 26);
        Checks.due("held once", car.count(6), 1);
        Checks.due("not by it", car.change(0, 4), 0);
    }

    /** At the tick 99918, with an empty text; 81 ticks are left. */
    private static ShiftMaps carNearTheEnd() {
        ShiftMaps car = new ShiftMaps();
        Checks.typeAll(car, "0,0*99;0,0*99;0,0*99;0,0*99;0,0*99;0,0*99;0,0*99;0,0*99;0,0");
        for (int i = 0; i < 126; i++) {
            Checks.due("793 ticks", car.readDrive(), 0);
        }
        Checks.due("tick", car.count(0), 99918);
        car.clearText();
        return car;
    }

    private static void promise5FullAbove99999() {
        ShiftMaps car = carNearTheEnd();
        Checks.due("one too many", Checks.drive(car, 0, 0, 82), ShiftMaps.FULL);
        Checks.due("18 too many", Checks.drive(car, 0, 0, 99), ShiftMaps.FULL);
        Checks.due("tick", car.count(0), 99918);
        Checks.due("just enough", Checks.drive(car, 0, 0, 81), 0);
        Checks.due("last tick", car.count(0), 99999);
        Checks.due("ticks in 1", car.count(7), 99999);
        Checks.due("no more", Checks.drive(car, 0, 0, 1), ShiftMaps.FULL);
        car.undo();
        Checks.due("just enough but one", Checks.drive(car, 0, 0, 80), 0);
        Checks.due("the last one", Checks.drive(car, 20, 0, 1), 1);
        Checks.due("its tick", car.change(0, 0), 99998);
        Checks.due("no more", Checks.drive(car, 20, 0, 1), ShiftMaps.FULL);
    }

    private static void promise6FullAbove99999() {
        ShiftMaps car = carNearTheEnd();
        Checks.typeAll(car, "0,0*60;0,0*22");
        Checks.due("one too many", car.readDrive(), ShiftMaps.FULL);
        Checks.due("no part passed", car.count(0), 99918);
        car.clearText();
        Checks.typeAll(car, "0,0*60;0,0*20;0,0");
        Checks.due("just enough", car.readDrive(), 0);
        Checks.due("last tick", car.count(0), 99999);
        Checks.due("no more", car.readDrive(), ShiftMaps.FULL);
        car.clearText();
        Checks.typeAll(car, "0,0");
        Checks.due("not even one", car.readDrive(), ShiftMaps.FULL);
    }

    private static void forecastsAtTheLastTick() {
        ShiftMaps car = carNearTheEnd();
        Checks.drive(car, 0, 0, 81);
        Checks.due("settles", car.settles(Checks.bits(40), 0), 6);
        Checks.due("wouldChoose", car.wouldChoose(Checks.bits(40), 0), 2);
        car.byHand(true);
        Checks.due("by hand", car.shift(true), 2);
        Checks.due("the tick as it is then", car.change(0, 0), 99999);
    }

    private static void promise5IsAnAct() {
        ShiftMaps car = new ShiftMaps();
        Checks.due("no change", Checks.drive(car, 5, 0, 7), 0);
        Checks.due("recorded all the same", car.count(13), 1);
        Checks.due("undo", car.undo(), 0);
        Checks.due("tick", car.count(0), 0);
        Checks.due("several changes", Checks.drive(car, 55, 0, 11), 3);
        Checks.due("one state", car.count(13), 1);
        Checks.drive(car, 55, 0, 6);
        Checks.drive(car, 55, 0.97, 1);
        car.undo();
        Checks.due("the pedal of the tick before is undone too", Checks.drive(car, 55, 1, 1), 1);
        Checks.due("kickdown", car.change(0, 3), 2);
    }

    private static void promise7Shifts() {
        ShiftMaps car = new ShiftMaps();
        car.byHand(true);
        for (int gear = 1; gear <= 4; gear++) {
            Checks.due("up", car.shift(true), gear + 1);
            Checks.due("behind 0 ticks", car.car(2), 0);
            Checks.due("logged tick", car.change(0, 0), (gear - 1) * 5);
            Checks.due("logged old", car.change(0, 1), gear);
            Checks.due("logged new", car.change(0, 2), gear + 1);
            Checks.due("logged why", car.change(0, 3), 3);
            Checks.drive(car, 10, 0, 5);
        }
        for (int gear = 5; gear >= 2; gear--) {
            Checks.due("down", car.shift(false), gear - 1);
            Checks.drive(car, 10, 0, 5);
        }
        Checks.due("counted", car.count(4), 8);
        Checks.due("no tick by itself", car.count(0), 40);
        car.shift(true);
        Checks.due("undo", car.undo(), 3);
        Checks.due("no change", car.car(1), ShiftMaps.NONE);
        Checks.due("log too", car.change(0, 2), 1);
    }

    private static void promise7OnlyByHand() {
        ShiftMaps car = new ShiftMaps();
        Checks.due("up", car.shift(true), ShiftMaps.NOT_POSSIBLE);
        Checks.due("down", car.shift(false), ShiftMaps.NOT_POSSIBLE);
        car.byHand(true);
        Checks.due("by hand", car.shift(true), 2);
        Checks.drive(car, 10, 0, 5);
        car.byHand(false);
        Checks.due("up again", car.shift(true), ShiftMaps.NOT_POSSIBLE);
        Checks.due("down again", car.shift(false), ShiftMaps.NOT_POSSIBLE);
        Checks.due("recorded", car.count(13), 4);
        Checks.due("counted", car.count(4), 1);
    }

    private static void promise7NotInAChange() {
        ShiftMaps car = new ShiftMaps();
        car.byHand(true);
        car.shift(true);
        for (int done = 0; done < 5; done++) {
            Checks.due("up behind " + done, car.shift(true), ShiftMaps.NOT_POSSIBLE);
            Checks.due("down behind " + done, car.shift(false), ShiftMaps.NOT_POSSIBLE);
            Checks.drive(car, 0, 0, 1);
        }
        Checks.due("behind all of it", car.shift(true), 3);
        Checks.due("and in the next", car.shift(false), ShiftMaps.NOT_POSSIBLE);
    }

    private static void promise7GearsAre1To5() {
        ShiftMaps low = Checks.carInGear(1);
        Checks.due("below 1", low.shift(false), ShiftMaps.NOT_POSSIBLE);
        Checks.due("2", low.shift(true), 2);
        ShiftMaps high = Checks.carInGear(5);
        Checks.due("above 5", high.shift(true), ShiftMaps.NOT_POSSIBLE);
        Checks.due("4", high.shift(false), 4);
    }

    private static void promise7BoundOfTheNewGear() {
        float[] bounds = {0, 50, 90, 130, 180};
        for (int gear = 1; gear <= 4; gear++) {
            ShiftMaps down = Checks.carInGear(gear + 1);
            Checks.drive(down, Math.nextUp(bounds[gear]), 0, 1);
            Checks.due("above the bound of " + gear, down.shift(false), ShiftMaps.NOT_POSSIBLE);
            Checks.drive(down, bounds[gear], 0, 1);
            Checks.due("at the bound of " + gear, down.shift(false), gear);
        }
        ShiftMaps up = Checks.carInGear(1);
        up.setMap(2, 3, Checks.bits(20));
        Checks.drive(up, Math.nextUp(20f), 0, 1);
        Checks.due("above it, up too", up.shift(true), ShiftMaps.NOT_POSSIBLE);
        Checks.drive(up, 20, 0, 1);
        Checks.due("at it, up too", up.shift(true), 2);
        ShiftMaps five = Checks.carInGear(4);
        five.setMap(5, 3, Checks.bits(20));
        Checks.drive(five, 21, 0, 1);
        Checks.due("5 has a bound too", five.shift(true), ShiftMaps.NOT_POSSIBLE);
    }

    private static void promise7AheadOfTheFirstTick() {
        ShiftMaps car = new ShiftMaps();
        car.byHand(true);
        car.setMap(2, 3, Checks.bits(0));
        Checks.due("0.0f is not greater than 0.0f", car.shift(true), 2);
        ShiftMaps driven = new ShiftMaps();
        driven.byHand(true);
        driven.setMap(2, 3, Checks.bits(0));
        driven.drive(1, 0, 1);
        Checks.due("the least speed is", driven.shift(true), ShiftMaps.NOT_POSSIBLE);
        driven.undo();
        Checks.due("ahead of it again", driven.shift(true), 2);
    }

    private static void promise7NeverHolds() {
        ShiftMaps car = Checks.quickCar();
        Checks.drive(car, 20, 0, 2);
        Checks.drive(car, 5, 0, 1);
        car.byHand(true);
        Checks.drive(car, 5, 0, 2);
        Checks.due("by hand", car.shift(true), 2);
        Checks.due("not held", car.car(3), 0);
        Checks.due("not logged so", car.change(0, 4), 0);
        ShiftMaps held = Checks.quickCar();
        Checks.swing(held);
        held.byHand(true);
        Checks.drive(held, 20, 0, 2);
        Checks.due("while held", held.shift(false), 1);
        Checks.due("hold stays", held.car(3), 28);
    }
}
