/** Promises 6, 8 and 9: readDrive, type, clearText. */
public final class TextTest {
    public static void main(String[] args) {
        promise6Faults();
        promise6GoodTexts();
        promise6PassesTheTicks();
        promise6PedalsAreHundredths();
        promise6IsOneAct();
        promise6ReadsAnew();
        promise8Types();
        promise9Clears();
        Checks.finish();
    }

    private static void fault(String text, int fault) {
        ShiftMaps car = new ShiftMaps();
        Checks.typeAll(car, text);
        Checks.due("readDrive of " + text, car.readDrive(), -100 - fault);
        Checks.due("tick behind " + text, car.count(0), 0);
        Checks.due("states behind " + text, car.count(13), 0);
        Checks.due("length behind " + text, car.count(14), text.length());
    }

    private static void promise6Faults() {
        String[] early = {"", "3", "300", "30,", "0,0*", "0,0;", "0,0*9;", "1,2;3", "1,2;3,", "1,2*3;4,5*"};
        for (String text : early) {
            fault(text, text.length());
        }
        fault("01,0", 1);
        fault("00,0", 1);
        fault("301,0", 2);
        fault("310,0", 2);
        fault("400,0", 2);
        fault("3000", 3);
        fault("1000,0", 3);
        fault("0,00", 3);
        fault("0,05", 3);
        fault("0,101", 4);
        fault("0,110", 4);
        fault("0,1000", 5);
        fault("0,99 ", 4);
        fault("0,0*0", 4);
        fault("0,0*05", 4);
        fault("0,0*100", 6);
        fault("0,0*990", 6);
        fault(",0", 0);
        fault("*1", 0);
        fault(";", 0);
        fault("-1,0", 0);
        fault("+1,0", 0);
        fault(" 1,0", 0);
        fault("1;0", 1);
        fault("1*0", 1);
        fault("1,,0", 2);
        fault("1,;0", 2);
        fault("1,*2", 2);
        fault("1,2,3", 3);
        fault("1,2*;", 4);
        fault("1,2**", 4);
        fault("1,2*,", 4);
        fault("1,2*3*4", 5);
        fault("1,2*3,4", 5);
        fault("1,2;;", 4);
        fault("1,2; 3,4", 4);
        fault("1.5,2", 1);
        fault("1,2;3,4;302,5", 10);
        fault("/,0", 0);
        fault(":,0", 0);
        fault("1,2" + (char) 0xff15, 3);
        fault((char) 0x661 + ",2", 0);
        fault("1,2\uffff", 3);
        fault("1,2" + (char) 0, 3);
        fault("0,0;0,0;0,0;0,0;0,0;0,0;0,0;0,0;0,0;0,0;0,0;0,0;0,0;0,0;0,0;", 60);
    }

    private static void good(String text, int ticks) {
        ShiftMaps car = new ShiftMaps();
        Checks.typeAll(car, text);
        Checks.isTrue("readDrive of " + text, car.readDrive() >= 0);
        Checks.due("ticks of " + text, car.count(0), ticks);
        Checks.due("text stays " + text, car.count(14), text.length());
    }

    private static void promise6GoodTexts() {
        good("0,0", 1);
        good("300,100*99", 99);
        good("299,99*1", 1);
        good("1,2;3,4", 2);
        good("10,20*30;40,50*60;70,80", 91);
        good("100,10*10", 10);
        good("200,0*9;9,9*9", 18);
        good("0,0;0,0;0,0;0,0;0,0;0,0;0,0;0,0;0,0;0,0;0,0;0,0;0,0;0,0;0,0", 15);
    }

    private static void promise6PassesTheTicks() {
        ShiftMaps car = new ShiftMaps();
        Checks.typeAll(car, "10,0;20,0*5;40,0*2");
        Checks.due("changes", car.readDrive(), 2);
        Checks.due("first tick", car.change(1, 0), 1);
        Checks.due("second tick", car.change(0, 0), 6);
        Checks.due("tick", car.count(0), 8);
        Checks.due("once more", car.readDrive(), 1);
        Checks.due("tick", car.count(0), 16);
        ShiftMaps none = new ShiftMaps();
        Checks.typeAll(none, "15,0*9");
        Checks.due("none", none.readDrive(), 0);
    }

    private static void promise6PedalsAreHundredths() {
        ShiftMaps kick = new ShiftMaps();
        Checks.drive(kick, 20, 0, 6);
        kick.byHand(true);
        Checks.typeAll(kick, "20,94;20,95");
        Checks.due("95 is a kickdown, 94 is none", kick.readDrive(), 1);
        Checks.due("why", kick.change(0, 3), 2);
        Checks.due("tick", kick.change(0, 0), 7);
        for (int hundredths = 0; hundredths <= 100; hundredths++) {
            ShiftMaps car = new ShiftMaps();
            float pedal = (float) hundredths / 100.0f;
            car.setMap(1, 0, Checks.bits(0));
            car.setMap(1, 1, Checks.bits(17 / pedal));
            int driven = Checks.drive(car, 17, pedal, 1);
            car.undo();
            Checks.typeAll(car, "17," + hundredths);
            Checks.due("pedal " + hundredths, car.readDrive(), driven);
        }
    }

    private static void promise6IsOneAct() {
        ShiftMaps car = new ShiftMaps();
        Checks.typeAll(car, "20,0*6;40,0*9");
        Checks.due("changes", car.readDrive(), 2);
        Checks.due("one state", car.count(13), 1);
        Checks.due("undo", car.undo(), 0);
        Checks.due("tick", car.count(0), 0);
        Checks.due("gear", car.car(0), 1);
        Checks.due("text stays", car.count(14), 13);
    }

    private static void promise6ReadsAnew() {
        ShiftMaps car = new ShiftMaps();
        Checks.typeAll(car, "20,");
        Checks.due("too early", car.readDrive(), -103);
        Checks.due("as early", car.readDrive(), -103);
        car.type('5');
        Checks.due("good then", car.readDrive(), 1);
        Checks.typeAll(car, "*3x");
        Checks.due("not allowed", car.readDrive(), -106);
        car.clearText();
        Checks.typeAll(car, "20,5*3");
        Checks.due("good again", car.readDrive(), 0);
        Checks.due("ticks", car.count(0), 4);
    }

    private static void promise8Types() {
        ShiftMaps car = new ShiftMaps();
        for (int i = 1; i <= 60; i++) {
            Checks.due("type", car.type((char) (i * 1111)), i);
        }
        Checks.due("61st", car.type('1'), ShiftMaps.FULL);
        Checks.due("length", car.count(14), 60);
        Checks.due("no act", car.count(13), 0);
        Checks.due("cleared", car.clearText(), 60);
        Checks.due("room again", car.type('1'), 1);
    }

    private static void promise9Clears() {
        ShiftMaps car = new ShiftMaps();
        Checks.due("empty", car.clearText(), 0);
        Checks.typeAll(car, "12,34*5");
        Checks.due("seven", car.clearText(), 7);
        Checks.due("length", car.count(14), 0);
        Checks.due("fault of the empty text", car.readDrive(), -100);
        Checks.typeAll(car, "1,2");
        Checks.due("nothing left of the old one", car.readDrive(), 0);
        Checks.due("tick", car.count(0), 1);
        car.clearText();
        Checks.due("no act", car.count(13), 1);
        car.undo();
        Checks.due("undo leaves the text", car.count(14), 0);
    }
}
