/** Promises 10 to 12: undo, keep, restore. */
public final class HistoryTest {
    public static void main(String[] args) {
        promise10Undo();
        promise10AtMostFour();
        promise10RestoresAll();
        promise10OnlyActs();
        promise11Keep();
        promise12Restore();
        promise12IsAnAct();
        promise12RestoresAll();
        Checks.finish();
    }

    private static void promise10Undo() {
        ShiftMaps car = new ShiftMaps();
        Checks.due("empty", car.undo(), ShiftMaps.NONE);
        car.setNumber(2, 21);
        car.setNumber(2, 22);
        Checks.due("two", car.count(13), 2);
        Checks.due("one left", car.undo(), 1);
        Checks.due("number", car.number(2), 21);
        Checks.due("none left", car.undo(), 0);
        Checks.due("number", car.number(2), 20);
        Checks.due("empty again", car.undo(), ShiftMaps.NONE);
        Checks.due("number", car.number(2), 20);
    }

    private static void promise10AtMostFour() {
        ShiftMaps car = new ShiftMaps();
        for (int i = 0; i < 7; i++) {
            car.setNumber(2, 30 + i);
            Checks.due("states", car.count(13), Math.min(i + 1, 4));
        }
        for (int left = 3; left >= 0; left--) {
            Checks.due("undo", car.undo(), left);
            Checks.due("number", car.number(2), 32 + left);
        }
        Checks.due("the oldest are dropped", car.undo(), ShiftMaps.NONE);
        car.setNumber(2, 50);
        car.setNumber(2, 51);
        Checks.due("and on", car.undo(), 1);
        Checks.due("number", car.number(2), 50);
    }

    /** A car with something in each part of its state. */
    private static ShiftMaps usedCar() {
        ShiftMaps car = Checks.quickCar();
        Checks.swing(car);
        car.setMap(5, 3, Checks.bits(250));
        car.byHand(true);
        Checks.drive(car, 20, 0.5, 2);
        return car;
    }

    private static void changeAll(ShiftMaps car) {
        Checks.typeAll(car, "200,99*50;0,0*20");
        car.readDrive();
        car.setMap(1, 0, Checks.bits(1));
        car.byHand(false);
        Checks.drive(car, 60, 0, 9);
    }

    private static void promise10RestoresAll() {
        ShiftMaps car = usedCar();
        String before = Checks.stateOf(car);
        changeAll(car);
        Checks.isTrue("another state", !before.equals(Checks.stateOf(car)));
        for (int i = 0; i < 4; i++) {
            car.undo();
        }
        Checks.isTrue("all is as before", before.equals(Checks.stateOf(car)));
        Checks.due("but the text", car.count(14), 16);
        Checks.due("the speed of the latest tick too", car.shift(false), 1);
        ShiftMaps fast = new ShiftMaps();
        fast.byHand(true);
        fast.shift(true);
        Checks.drive(fast, 10, 0, 5);
        Checks.drive(fast, 60, 0, 1);
        Checks.drive(fast, 10, 0, 1);
        fast.undo();
        Checks.due("the speed before", fast.shift(false), ShiftMaps.NOT_POSSIBLE);
    }

    private static void promise10OnlyActs() {
        ShiftMaps car = new ShiftMaps();
        car.type('1');
        car.keep();
        car.clearText();
        car.setMap(1, 0, Checks.bits(15));
        car.setNumber(0, 5);
        car.byHand(false);
        car.shift(true);
        car.readDrive();
        Checks.drive(car, 301, 0, 1);
        car.wouldChoose(0, 0);
        car.settles(0, 0);
        Checks.due("nothing recorded", car.count(13), 0);
        car.restore();
        Checks.due("restore", car.count(13), 1);
        car.undo();
        car.keep();
        Checks.due("undo and keep are none", car.count(13), 0);
    }

    private static void promise11Keep() {
        ShiftMaps car = new ShiftMaps();
        Checks.due("tick 0", car.keep(), 0);
        Checks.drive(car, 10, 0, 12);
        Checks.due("tick 12", car.keep(), 12);
        Checks.drive(car, 10, 0, 5);
        Checks.due("in place of the old one", car.restore(), 12);
        car.undo();
        car.undo();
        Checks.due("undo goes on", car.count(0), 12);
        car.undo();
        Checks.due("and on", car.count(0), 0);
        Checks.due("the snapshot is not undone", car.restore(), 12);
    }

    private static void promise12Restore() {
        ShiftMaps car = new ShiftMaps();
        Checks.due("none", car.restore(), ShiftMaps.NONE);
        Checks.due("nothing recorded", car.count(13), 0);
        Checks.drive(car, 20, 0, 3);
        car.keep();
        Checks.drive(car, 40, 0, 30);
        Checks.due("tick then", car.restore(), 3);
        Checks.due("in the change", car.car(2), 2);
        Checks.drive(car, 0, 0, 40);
        Checks.due("it stays", car.restore(), 3);
        Checks.due("again", car.restore(), 3);
        Checks.due("history is no part of it", car.count(13), 4);
    }

    private static void promise12IsAnAct() {
        ShiftMaps car = new ShiftMaps();
        car.keep();
        Checks.drive(car, 20, 0, 9);
        car.restore();
        Checks.due("two states", car.count(13), 2);
        Checks.due("undo", car.undo(), 1);
        Checks.due("tick", car.count(0), 9);
        Checks.due("gear", car.car(0), 2);
    }

    private static void promise12RestoresAll() {
        ShiftMaps car = usedCar();
        String before = Checks.stateOf(car);
        car.keep();
        changeAll(car);
        car.restore();
        Checks.isTrue("all is as kept", before.equals(Checks.stateOf(car)));
        Checks.due("but the text", car.count(14), 16);
    }
}
