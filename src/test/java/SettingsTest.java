/** Promises 1 to 4: a new object, setMap, setNumber, byHand. */
public final class SettingsTest {
    private static final float[][] AT_FIRST = {
        {15f, 30f, 45f, 60f}, {40f, 75f, 110f, 150f}, {5f, 8f, 10f, 12f}, {50f, 90f, 130f, 180f, 300f}
    };

    public static void main(String[] args) {
        promise1NewObject();
        promise1ObjectsAreApart();
        promise2SetsEachSpeed();
        promise2WhatIs0To3();
        promise2WrongArguments();
        promise2IsSoAlready();
        promise2EdgesOfSpeeds();
        promise2IsAnAct();
        promise3SetsNumbers();
        promise3WhichIs0To3();
        promise3Edges();
        promise3IsSoAlready();
        promise3NotInAChange();
        promise4ByHand();
        promise4IsSoAlready();
        Checks.finish();
    }

    private static void promise1NewObject() {
        ShiftMaps car = new ShiftMaps();
        int[] told = {1, -5, -5, 0, 0, -5, -5};
        for (int what = 0; what < told.length; what++) {
            Checks.due("new: car(" + what + ")", car.car(what), told[what]);
        }
        float[] pressed = {1f, 0f, 0f, 0f, 1f};
        for (int clutch = 0; clutch < 5; clutch++) {
            Checks.dueFloat("new: pressed(" + clutch + ")", car.pressed(clutch), pressed[clutch]);
        }
        Checks.dueFloat("new: force()", car.force(), 1f);
        for (int what = 0; what < AT_FIRST.length; what++) {
            for (int gear = 1; gear <= AT_FIRST[what].length; gear++) {
                Checks.dueFloat("new: map", car.map(gear, what), AT_FIRST[what][gear - 1]);
            }
        }
        int[] numbers = {5, 1, 20, 30};
        for (int which = 0; which < 4; which++) {
            Checks.due("new: number(" + which + ")", car.number(which), numbers[which]);
        }
        for (int what = 0; what <= 14; what++) {
            Checks.due("new: count(" + what + ")", car.count(what), 0);
        }
        Checks.due("new: change", car.change(0, 0), ShiftMaps.NONE);
        Checks.due("new: undo", car.undo(), ShiftMaps.NONE);
        Checks.due("new: restore", car.restore(), ShiftMaps.NONE);
        Checks.due("new: readDrive", car.readDrive(), -100);
    }

    private static void promise1ObjectsAreApart() {
        ShiftMaps one = new ShiftMaps();
        ShiftMaps other = new ShiftMaps();
        String before = Checks.stateOf(other);
        one.setMap(1, 0, Checks.bits(3));
        one.setNumber(2, 7);
        Checks.drive(one, 200, 1, 50);
        Checks.typeAll(one, "1,2");
        Checks.isTrue("another object stays", before.equals(Checks.stateOf(other)));
        Checks.due("another text stays", other.count(14), 0);
    }

    private static void promise2SetsEachSpeed() {
        ShiftMaps car = new ShiftMaps();
        for (int what = 0; what < 4; what++) {
            for (int gear = 1; gear <= (what == 3 ? 5 : 4); gear++) {
                float speed = 100.5f + what * 10 + gear;
                Checks.due("setMap", car.setMap(gear, what, Checks.bits(speed)), 1);
            }
        }
        for (int what = 0; what < 4; what++) {
            for (int gear = 1; gear <= (what == 3 ? 5 : 4); gear++) {
                Checks.dueFloat("map as set", car.map(gear, what), 100.5f + what * 10 + gear);
            }
        }
    }

    private static void promise2WhatIs0To3() {
        ShiftMaps car = new ShiftMaps();
        int[] wrong = {Integer.MIN_VALUE, -2, -1, 4, 5, Integer.MAX_VALUE};
        for (int what : wrong) {
            Checks.due("setMap, what " + what, car.setMap(1, what, Checks.bits(33)), ShiftMaps.BAD_VALUE);
            Checks.dueFloat("map, what " + what, car.map(1, what), Float.NaN);
        }
        Checks.due("what 0", car.setMap(1, 0, Checks.bits(33)), 1);
        Checks.due("what 3", car.setMap(1, 3, Checks.bits(33)), 1);
    }

    private static void promise2IsSoAlready() {
        ShiftMaps car = new ShiftMaps();
        for (int what = 0; what < AT_FIRST.length; what++) {
            for (int gear = 1; gear <= AT_FIRST[what].length; gear++) {
                int bits = Checks.bits(AT_FIRST[what][gear - 1]);
                Checks.due("is so at first", car.setMap(gear, what, bits), ShiftMaps.NONE);
                Checks.due("the next float is not so", car.setMap(gear, what, bits - 1), 1);
                Checks.due("is so then", car.setMap(gear, what, bits - 1), ShiftMaps.NONE);
                Checks.due("one back", car.setMap(gear, what, bits), 1);
            }
        }
    }

    private static void promise2WrongArguments() {
        ShiftMaps car = new ShiftMaps();
        String before = Checks.stateOf(car);
        int good = Checks.bits(33);
        Checks.due("what is first", car.setMap(0, 4, -1), ShiftMaps.BAD_VALUE);
        Checks.due("what -1", car.setMap(1, -1, good), ShiftMaps.BAD_VALUE);
        Checks.due("what 4", car.setMap(1, 4, good), ShiftMaps.BAD_VALUE);
        Checks.due("gear ahead of bits", car.setMap(0, 0, -1), ShiftMaps.UNKNOWN);
        Checks.due("gear 5, low", car.setMap(5, 0, good), ShiftMaps.UNKNOWN);
        Checks.due("gear 5, high", car.setMap(5, 1, good), ShiftMaps.UNKNOWN);
        Checks.due("gear 5, distance", car.setMap(5, 2, good), ShiftMaps.UNKNOWN);
        Checks.due("gear 6, bound", car.setMap(6, 3, good), ShiftMaps.UNKNOWN);
        Checks.due("gear 0, bound", car.setMap(0, 3, good), ShiftMaps.UNKNOWN);
        Checks.due("far", car.setMap(Integer.MAX_VALUE, 3, good), ShiftMaps.UNKNOWN);
        Checks.due("far", car.setMap(Integer.MIN_VALUE, 0, good), ShiftMaps.UNKNOWN);
        Checks.due("far", car.setMap(1, Integer.MIN_VALUE, good), ShiftMaps.BAD_VALUE);
        Checks.due("as it is", car.setMap(2, 1, Checks.bits(75)), ShiftMaps.NONE);
        Checks.isTrue("nothing changed", before.equals(Checks.stateOf(car)));
        Checks.due("nothing recorded", car.count(13), 0);
    }

    private static void promise2EdgesOfSpeeds() {
        ShiftMaps car = new ShiftMaps();
        int greatest = Checks.bits(300);
        int[] bad = {
            greatest + 1, Checks.bits(-0.0f), Checks.bits(-1), Checks.bits(Float.NaN), Integer.MIN_VALUE, -1,
            Checks.bits(Float.POSITIVE_INFINITY), Checks.bits(Float.NEGATIVE_INFINITY), Integer.MAX_VALUE
        };
        for (int bits : bad) {
            Checks.due("setMap(1, 0, " + bits + ")", car.setMap(1, 0, bits), ShiftMaps.BAD_VALUE);
        }
        int[] good = {
            greatest, greatest - 1, 0, 1, 2, 0x7fffff, 0x800000, 0x800001, 0xffffff, 0x3f7fffff, 0x3f800001,
            0x00123456, 0x42c80001, 0x1234567, Checks.bits(0.1f), Checks.bits(299.99f)
        };
        for (int bits : good) {
            Checks.due("setMap(1, 0, " + bits + ")", car.setMap(1, 0, bits), 1);
            Checks.dueFloat("map of " + bits, car.map(1, 0), Float.intBitsToFloat(bits));
            Checks.due("once more " + bits, car.setMap(1, 0, bits), ShiftMaps.NONE);
        }
    }

    private static void promise2IsAnAct() {
        ShiftMaps car = new ShiftMaps();
        car.setMap(3, 2, Checks.bits(1.5));
        Checks.due("recorded", car.count(13), 1);
        Checks.due("undo", car.undo(), 0);
        Checks.dueFloat("as before", car.map(3, 2), 10f);
        Checks.drive(car, 20, 0, 1);
        Checks.due("in a change too", car.setMap(3, 2, Checks.bits(1.5)), 1);
    }

    private static void promise3SetsNumbers() {
        ShiftMaps car = new ShiftMaps();
        Checks.due("time", car.setNumber(0, 9), 5);
        Checks.due("lag", car.setNumber(1, 4), 1);
        Checks.due("window", car.setNumber(2, 50), 20);
        Checks.due("hold", car.setNumber(3, 60), 30);
        int[] numbers = {9, 4, 50, 60};
        for (int which = 0; which < 4; which++) {
            Checks.due("number", car.number(which), numbers[which]);
            Checks.due("as it is", car.setNumber(which, numbers[which]), ShiftMaps.NONE);
        }
        Checks.due("acts", car.count(13), 4);
        car.undo();
        Checks.due("undone", car.number(3), 30);
    }

    private static void promise3WhichIs0To3() {
        ShiftMaps car = new ShiftMaps();
        int[] wrong = {Integer.MIN_VALUE, -2, -1, 4, 5, Integer.MAX_VALUE};
        for (int which : wrong) {
            Checks.due("which " + which, car.setNumber(which, 5), ShiftMaps.UNKNOWN);
        }
        Checks.due("which 0", car.setNumber(0, 7), 5);
        Checks.due("which 3", car.setNumber(3, 7), 30);
    }

    private static void promise3IsSoAlready() {
        ShiftMaps car = new ShiftMaps();
        int[] numbers = {5, 1, 20, 30};
        for (int which = 0; which < 4; which++) {
            Checks.due("is so at first", car.setNumber(which, numbers[which]), ShiftMaps.NONE);
            Checks.due("one more is not", car.setNumber(which, numbers[which] + 1), numbers[which]);
            Checks.due("is so then", car.setNumber(which, numbers[which] + 1), ShiftMaps.NONE);
        }
        Checks.due("acts", car.count(13), 4);
    }

    private static void promise3Edges() {
        ShiftMaps car = new ShiftMaps();
        Checks.due("time 21", car.setNumber(0, 21), ShiftMaps.BAD_VALUE);
        Checks.due("time 20", car.setNumber(0, 20), 5);
        Checks.due("lag 20", car.setNumber(1, 20), ShiftMaps.BAD_VALUE);
        Checks.due("lag 19", car.setNumber(1, 19), 1);
        Checks.due("time like the lag", car.setNumber(0, 19), ShiftMaps.BAD_VALUE);
        Checks.due("lag -1", car.setNumber(1, -1), ShiftMaps.BAD_VALUE);
        Checks.due("lag 0", car.setNumber(1, 0), 19);
        Checks.due("time 1", car.setNumber(0, 1), ShiftMaps.BAD_VALUE);
        Checks.due("time 2", car.setNumber(0, 2), 20);
        Checks.due("lag 2", car.setNumber(1, 2), ShiftMaps.BAD_VALUE);
        Checks.due("lag 1", car.setNumber(1, 1), 0);
        for (int which = 2; which <= 3; which++) {
            Checks.due("0", car.setNumber(which, 0), ShiftMaps.BAD_VALUE);
            Checks.due("101", car.setNumber(which, 101), ShiftMaps.BAD_VALUE);
            Checks.due("least", car.setNumber(which, 1), which == 2 ? 20 : 30);
            Checks.due("most", car.setNumber(which, 100), 1);
            Checks.due("far", car.setNumber(which, Integer.MAX_VALUE), ShiftMaps.BAD_VALUE);
        }
    }

    private static void promise3NotInAChange() {
        ShiftMaps car = new ShiftMaps();
        Checks.drive(car, 20, 0, 1);
        Checks.due("time in a change", car.setNumber(0, 6), ShiftMaps.NOT_POSSIBLE);
        Checks.due("lag in a change", car.setNumber(1, 2), ShiftMaps.NOT_POSSIBLE);
        Checks.due("value first", car.setNumber(0, 1), ShiftMaps.BAD_VALUE);
        Checks.due("not possible ahead of NONE", car.setNumber(0, 5), ShiftMaps.NOT_POSSIBLE);
        Checks.due("window in a change", car.setNumber(2, 21), 20);
        Checks.due("hold in a change", car.setNumber(3, 31), 30);
        Checks.drive(car, 20, 0, 5);
        Checks.due("time behind it", car.setNumber(0, 6), 5);
        Checks.due("lag behind it", car.setNumber(1, 2), 1);
    }

    private static void promise4ByHand() {
        ShiftMaps car = new ShiftMaps();
        Checks.drive(car, 20, 0, 3);
        Checks.due("in a change the old gear", car.byHand(true), 1);
        Checks.due("mode", car.car(4), 1);
        Checks.drive(car, 20, 0, 3);
        Checks.due("the change went on", car.car(0), 2);
        Checks.due("no down by hand", Checks.drive(car, 0, 0, 20), 0);
        Checks.due("left", car.byHand(false), 2);
        Checks.due("down again", Checks.drive(car, 0, 0, 1), 1);
        car.undo();
        car.undo();
        Checks.due("mode is undone", car.car(4), 1);
    }

    private static void promise4IsSoAlready() {
        ShiftMaps car = new ShiftMaps();
        Checks.due("is not so at first", car.byHand(false), ShiftMaps.NONE);
        Checks.due("nothing recorded", car.count(13), 0);
        Checks.due("mode", car.car(4), 0);
        Checks.due("taken", car.byHand(true), 1);
        Checks.due("is so", car.byHand(true), ShiftMaps.NONE);
        Checks.due("recorded once", car.count(13), 1);
        Checks.due("mode", car.car(4), 1);
        Checks.due("left", car.byHand(false), 1);
        Checks.due("is left", car.byHand(false), ShiftMaps.NONE);
    }
}
