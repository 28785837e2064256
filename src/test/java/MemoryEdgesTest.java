import java.util.ArrayDeque;
import java.util.Deque;

/** LOG and HISTORY of the document: what is known when they are empty, full, and round once more. */
public final class MemoryEdgesTest {
    public static void main(String[] args) {
        theLogIsEmptyAtFirst();
        theLatestTenAreKnown();
        theLogComesBackWithItsState();
        anEmptyHistoryIsNone();
        theHistoryIsFullWithFour();
        theOldestIsDropped();
        undoAndActsInTurns();
        undoIsNoAct();
        eachActRecordsOnce();
        whatIsNoActRecordsNothing();
        theSnapshotIsEmptyAtFirst();
        theSnapshotIsTakenInPlace();
        theSnapshotStays();
        restoreOfTheSameStateIsAnAct();
        aStateIsNeitherTextNorHistoryNorSnapshot();
        theLatestSpeedBelongsToTheState();
        theLatestPedalBelongsToTheState();
        the512thCall();
        Checks.finish();
    }

    private static void theLogIsEmptyAtFirst() {
        ShiftMaps car = new ShiftMaps();
        for (int what = 0; what <= 4; what++) {
            Checks.due("none", car.change(0, what), ShiftMaps.NONE);
        }
        Checks.drive(car, 20, 0, 1);
        Checks.due("one", car.change(0, 2), 2);
        Checks.due("not two", car.change(1, 2), ShiftMaps.NONE);
    }

    /** Ticks pass by twos, so that the log tells the number of each change by its tick. */
    private static ShiftMaps carWithChanges(int changes) {
        ShiftMaps car = Checks.quickCar();
        car.byHand(true);
        for (int i = 0; i < changes; i++) {
            Checks.due("shift", car.shift(i % 2 == 0), i % 2 == 0 ? 2 : 1);
            Checks.drive(car, 10, 0, 2);
        }
        return car;
    }

    private static void logKnows(ShiftMaps car, int changes) {
        for (int back = 0; back <= 11; back++) {
            int number = changes - 1 - back;
            boolean known = back < 10 && number >= 0;
            String call = "of " + changes + " changes, " + back + " back";
            Checks.due(call + ": tick", car.change(back, 0), known ? number * 2 : ShiftMaps.NONE);
            Checks.due(call + ": old gear", car.change(back, 1), known ? 1 + number % 2 : ShiftMaps.NONE);
            Checks.due(call + ": new gear", car.change(back, 2), known ? 2 - number % 2 : ShiftMaps.NONE);
            Checks.due(call + ": why", car.change(back, 3), known ? 3 : ShiftMaps.NONE);
            Checks.due(call + ": held", car.change(back, 4), known ? 0 : ShiftMaps.NONE);
        }
        Checks.due("far", car.change(Integer.MAX_VALUE, 0), ShiftMaps.NONE);
        Checks.due("all are counted", car.count(4), changes);
    }

    private static void theLatestTenAreKnown() {
        int[] numbers = {0, 1, 2, 9, 10, 11, 12, 19, 20, 21, 30, 31, 47};
        for (int changes : numbers) {
            logKnows(carWithChanges(changes), changes);
        }
    }

    private static void theLogComesBackWithItsState() {
        ShiftMaps car = carWithChanges(10);
        car.shift(true);
        Checks.due("the first is not known", car.change(9, 0), 2);
        car.undo();
        logKnows(car, 10);
        ShiftMaps kept = carWithChanges(10);
        kept.keep();
        Checks.drive(kept, 51, 0, 1);
        Checks.drive(kept, 51, 0, 99);
        kept.restore();
        logKnows(kept, 10);
        kept.undo();
        Checks.due("undone", kept.change(0, 3), 4);
    }

    private static void anEmptyHistoryIsNone() {
        ShiftMaps car = new ShiftMaps();
        String before = Checks.stateOf(car);
        Checks.due("new", car.undo(), ShiftMaps.NONE);
        Checks.due("new, again", car.undo(), ShiftMaps.NONE);
        Checks.isTrue("nothing changed", before.equals(Checks.stateOf(car)));
        Checks.due("states", car.count(13), 0);
        car.byHand(true);
        Checks.due("the only one", car.undo(), 0);
        Checks.due("empty again", car.undo(), ShiftMaps.NONE);
        Checks.isTrue("as new", before.equals(Checks.stateOf(car)));
    }

    private static void theHistoryIsFullWithFour() {
        for (int acts = 1; acts <= 9; acts++) {
            ShiftMaps car = new ShiftMaps();
            for (int i = 1; i <= acts; i++) {
                car.setNumber(2, 20 + i);
                Checks.due("states behind " + i + " acts", car.count(13), i <= 4 ? i : 4);
            }
            for (int left = Math.min(acts, 4) - 1; left >= 0; left--) {
                Checks.due("left of " + acts, car.undo(), left);
                Checks.due("states of " + acts, car.count(13), left);
            }
            Checks.due("none left of " + acts, car.undo(), ShiftMaps.NONE);
        }
    }

    private static void theOldestIsDropped() {
        for (int acts = 5; acts <= 9; acts++) {
            ShiftMaps car = new ShiftMaps();
            for (int i = 1; i <= acts; i++) {
                car.setNumber(2, 20 + i);
            }
            for (int back = 1; back <= 4; back++) {
                car.undo();
                Checks.due("window " + back + " back of " + acts, car.number(2), 20 + acts - back);
            }
            car.undo();
            Checks.due("the oldest ones are gone", car.number(2), 20 + acts - 4);
        }
    }

    private static void undoAndActsInTurns() {
        ShiftMaps car = new ShiftMaps();
        Deque<Integer> due = new ArrayDeque<>();
        String turns = "aaauuaaaaauaauuuuuaaaaaaauauauuuuuuaauaaauaaaauuuuu";
        int window = 20;
        for (int i = 0; i < turns.length(); i++) {
            if (turns.charAt(i) == 'a') {
                due.addLast(window);
                if (due.size() > 4) {
                    due.removeFirst();
                }
                window = 21 + i;
                car.setNumber(2, window);
            } else if (due.isEmpty()) {
                Checks.due("none, turn " + i, car.undo(), ShiftMaps.NONE);
            } else {
                window = due.removeLast();
                Checks.due("undo, turn " + i, car.undo(), due.size());
            }
            Checks.due("window, turn " + i, car.number(2), window);
            Checks.due("states, turn " + i, car.count(13), due.size());
        }
    }

    private static void undoIsNoAct() {
        ShiftMaps car = new ShiftMaps();
        car.setNumber(2, 21);
        car.setNumber(2, 22);
        car.undo();
        car.undo();
        Checks.due("undo is not undone", car.undo(), ShiftMaps.NONE);
        Checks.due("window", car.number(2), 20);
    }

    private static void eachActRecordsOnce() {
        ShiftMaps car = new ShiftMaps();
        Checks.due("setMap", car.setMap(1, 0, 0), 1);
        Checks.due("states", car.count(13), 1);
        Checks.due("setNumber", car.setNumber(0, 6), 5);
        Checks.due("states", car.count(13), 2);
        Checks.due("byHand", car.byHand(true), 1);
        Checks.due("states", car.count(13), 3);
        Checks.due("shift", car.shift(true), 2);
        Checks.due("states", car.count(13), 4);
        Checks.due("the shift alone is undone", car.undo(), 3);
        Checks.due("by hand still", car.car(4), 1);
        ShiftMaps driven = new ShiftMaps();
        driven.keep();
        Checks.due("drive of 99 ticks, 4 changes", Checks.drive(driven, 200, 0, 99), 4);
        Checks.due("states", driven.count(13), 1);
        Checks.typeAll(driven, "1,2*3;4,5*6;7,8");
        Checks.due("readDrive of three parts, 2 changes", driven.readDrive(), 2);
        Checks.due("states", driven.count(13), 2);
        Checks.due("restore", driven.restore(), 0);
        Checks.due("states", driven.count(13), 3);
        driven.undo();
        Checks.due("restore alone is undone", driven.count(0), 109);
        driven.undo();
        Checks.due("all parts are undone at once", driven.count(0), 99);
        driven.undo();
        Checks.due("all ticks are undone at once", driven.count(0), 0);
    }

    private static void whatIsNoActRecordsNothing() {
        ShiftMaps car = new ShiftMaps();
        car.byHand(true);
        car.type('1');
        car.clearText();
        car.keep();
        Checks.stateOf(car);
        car.border(1, 0, true);
        car.wouldChoose(0, 0);
        car.settles(0, 0);
        car.force();
        Checks.due("the act alone", car.count(13), 1);
    }

    private static void theSnapshotIsEmptyAtFirst() {
        ShiftMaps car = new ShiftMaps();
        Checks.due("none", car.restore(), ShiftMaps.NONE);
        Checks.drive(car, 20, 0, 3);
        String before = Checks.stateOf(car);
        Checks.due("none behind an act", car.restore(), ShiftMaps.NONE);
        Checks.isTrue("nothing changed", before.equals(Checks.stateOf(car)));
        Checks.due("nothing recorded", car.count(13), 1);
        car.undo();
        Checks.due("none behind undo", car.restore(), ShiftMaps.NONE);
    }

    private static void theSnapshotIsTakenInPlace() {
        ShiftMaps car = new ShiftMaps();
        Checks.due("tick 0", car.keep(), 0);
        Checks.drive(car, 0, 0, 5);
        Checks.due("tick 5", car.keep(), 5);
        Checks.due("tick 5, again", car.keep(), 5);
        Checks.drive(car, 0, 0, 5);
        Checks.due("the latest one", car.restore(), 5);
        Checks.due("the one before is gone", car.restore(), 5);
    }

    private static void theSnapshotStays() {
        ShiftMaps car = new ShiftMaps();
        Checks.drive(car, 20, 0, 3);
        car.keep();
        String kept = Checks.stateOf(car);
        for (int i = 0; i < 3; i++) {
            Checks.drive(car, 70, 1, 20 + i);
            car.setNumber(2, 50 + i);
            Checks.due("tick", car.restore(), 3);
        }
        Checks.isTrue("as kept", kept.equals(Checks.stateOf(car)));
    }

    private static void restoreOfTheSameStateIsAnAct() {
        ShiftMaps car = new ShiftMaps();
        car.keep();
        Checks.due("restore", car.restore(), 0);
        Checks.due("recorded", car.count(13), 1);
        Checks.due("again", car.restore(), 0);
        Checks.due("recorded", car.count(13), 2);
    }

    private static void aStateIsNeitherTextNorHistoryNorSnapshot() {
        ShiftMaps car = new ShiftMaps();
        Checks.typeAll(car, "1,");
        car.setNumber(2, 21);
        car.keep();
        Checks.typeAll(car, "2*3");
        car.setNumber(2, 22);
        car.restore();
        Checks.due("restore leaves the history", car.count(13), 3);
        Checks.due("restore leaves the text", car.count(14), 5);
        Checks.due("window", car.number(2), 21);
        car.undo();
        Checks.due("undo leaves the text", car.count(14), 5);
        Checks.due("window", car.number(2), 22);
        car.undo();
        car.undo();
        Checks.due("undo leaves the snapshot", car.restore(), 0);
        Checks.due("window", car.number(2), 21);
        Checks.due("the text is whole", car.readDrive(), 0);
        Checks.due("its ticks", car.count(0), 3);
    }

    /** The speed of the latest tick is greater than the bound of 1, then it is not. */
    private static ShiftMaps fastCar() {
        ShiftMaps car = Checks.carInGear(2);
        Checks.drive(car, 60, 0, 1);
        Checks.due("too fast", car.shift(false), ShiftMaps.NOT_POSSIBLE);
        car.keep();
        Checks.drive(car, 10, 0, 1);
        return car;
    }

    private static void theLatestSpeedBelongsToTheState() {
        Checks.due("slow", fastCar().shift(false), 1);
        ShiftMaps undone = fastCar();
        undone.undo();
        Checks.due("undone", undone.shift(false), ShiftMaps.NOT_POSSIBLE);
        ShiftMaps restored = fastCar();
        restored.restore();
        Checks.due("restored", restored.shift(false), ShiftMaps.NOT_POSSIBLE);
        restored.undo();
        Checks.due("restore undone", restored.shift(false), 1);
    }

    /** The pedal of the latest tick is deep without a change, then it is not. */
    private static ShiftMaps pressedCar() {
        ShiftMaps car = Checks.carInGear(2);
        Checks.drive(car, 60, 1, 1);
        Checks.due("too fast", car.car(1), ShiftMaps.NONE);
        car.keep();
        Checks.drive(car, 60, 0, 1);
        return car;
    }

    private static void theLatestPedalBelongsToTheState() {
        Checks.due("kickdown", Checks.drive(pressedCar(), 10, 1, 1), 1);
        ShiftMaps undone = pressedCar();
        undone.undo();
        Checks.due("undone", Checks.drive(undone, 10, 1, 1), 0);
        ShiftMaps restored = pressedCar();
        restored.restore();
        Checks.due("restored, as told", restored.wouldChoose(Checks.bits(10), Checks.bits(1)), ShiftMaps.NONE);
        Checks.due("restored", Checks.drive(restored, 10, 1, 1), 0);
    }

    private static void the512thCall() {
        ShiftMaps car = new ShiftMaps();
        for (int call = 1; call <= 510; call++) {
            Checks.due("call " + call, Checks.drive(car, call % 2, 0, 1), 0);
        }
        Checks.due("call 511", car.undo(), 3);
        Checks.due("call 512", car.count(0), 509);
    }
}
