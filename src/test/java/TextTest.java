/** Promises 6, 8 and 9: readDrive, type, clearText. */
public final class TextTest {
    public static void main(String[] args) {
        promise6EndsTooEarly();
        promise6SpeedsAreTo300();
        promise6PedalsAreTo100();
        promise6TicksAreFrom1To99();
        promise6OneTickIfNotTold();
        promise6NoZeroInFront();
        promise6GreatestNumbers();
        promise6PartsAndNumbersAreTold();
        promise6OtherCharacters();
        promise6TheFirstFaultCounts();
        promise6FaultsOfAFullText();
        promise6GoodTexts();
        promise6PassesTheTicks();
        promise6PedalsAreHundredths();
        promise6IsOneAct();
        promise6ReadsAnew();
        promise8AnyCharacter();
        promise8FullWith60();
        promise9Clears();
        promise9OfEmptyAndFullTexts();
        Checks.finish();
    }

    private static void fault(String text, int fault) {
        ShiftMaps car = new ShiftMaps();
        Checks.typeAll(car, text);
        Checks.due("readDrive of " + text, car.readDrive(), -100 - fault);
        Checks.due("tick behind " + text, car.count(0), 0);
        Checks.due("states behind " + text, car.count(13), 0);
        Checks.due("length behind " + text, car.count(14), text.length());
    }

    /** Behind this there may be any of the characters, and behind all others of these it has its fault. */
    private static void allowedNext(String text, String allowed) {
        for (char character : "0123456789,;* +-.xX/:)+".toCharArray()) {
            ShiftMaps car = new ShiftMaps();
            Checks.typeAll(car, text + character);
            int answer = car.readDrive();
            boolean faultThere = answer == -100 - text.length();
            Checks.due(text + character + " has its fault there", faultThere ? 1 : 0,
                    allowed.indexOf(character) < 0 ? 1 : 0);
        }
    }

    private static void promise6EndsTooEarly() {
        String[] early = {"", "3", "300", "30,", "0,0*", "0,0;", "0,0*9;", "1,2;3", "1,2;3,", "1,2*3;4,5*"};
        for (String text : early) {
            fault(text, text.length());
        }
        fault("0,0;0,0;0,0;0,0;0,0;0,0;0,0;0,0;0,0;0,0;0,0;0,0;0,0;0,0;0,0;", 60);
    }

    private static void promise6SpeedsAreTo300() {
        allowedNext("", "0123456789");
        allowedNext("3", "0123456789,");
        allowedNext("29", "0123456789,");
        allowedNext("30", "0,");
        allowedNext("31", ",");
        allowedNext("300", ",");
        allowedNext("299", ",");
        allowedNext("100", ",");
        allowedNext("1,1;", "0123456789");
        allowedNext("1,1;30", "0,");
        good("0,1", 1);
        good("300,1", 1);
    }

    private static void promise6PedalsAreTo100() {
        allowedNext("1,", "0123456789");
        allowedNext("1,1", "0123456789*;");
        allowedNext("1,10", "0*;");
        allowedNext("1,11", "*;");
        allowedNext("1,9", "0123456789*;");
        allowedNext("1,99", "*;");
        allowedNext("1,100", "*;");
        good("1,0", 1);
        good("1,100", 1);
    }

    private static void promise6TicksAreFrom1To99() {
        allowedNext("1,1*", "123456789");
        allowedNext("1,1*1", "0123456789;");
        allowedNext("1,1*9", "0123456789;");
        allowedNext("1,1*10", ";");
        allowedNext("1,1*99", ";");
        fault("0,0*0", 4);
        fault("0,0*05", 4);
        good("0,0*1", 1);
        good("0,0*99", 99);
    }

    private static void promise6OneTickIfNotTold() {
        good("5,0", 1);
        good("5,0;5,0", 2);
        good("5,0*7;5,0;5,0*8", 16);
        good("5,0;5,0*8;5,0", 10);
    }

    private static void promise6GreatestNumbers() {
        fault("301,0", 2);
        fault("310,0", 2);
        fault("400,0", 2);
        fault("3000", 3);
        fault("1000,0", 3);
        fault("0,101", 4);
        fault("0,110", 4);
        fault("0,200", 4);
        fault("0,1000", 5);
        fault("0,0*100", 6);
        fault("0,0*990", 6);
        fault("0,0;999,0", 6);
        fault("99999999999999999999", 2);
    }

    private static void promise6NoZeroInFront() {
        allowedNext("0", ",");
        allowedNext("1,0", "*;");
        allowedNext("1,1;0", ",");
        fault("01,0", 1);
        fault("00,0", 1);
        fault("0,00", 3);
        fault("0,05", 3);
        fault("1,1;07,1", 5);
    }

    private static void promise6PartsAndNumbersAreTold() {
        fault(",0", 0);
        fault("*1", 0);
        fault(";", 0);
        fault("1;0", 1);
        fault("1*0", 1);
        fault("1,,0", 2);
        fault("1,;0", 2);
        fault("1,*2", 2);
        fault("1,2,3", 3);
        fault("1,2*;", 4);
        fault("1,2**", 4);
        fault("1,2*,", 4);
        fault("1,2*3*4", 5);
        fault("1,2*3,4", 5);
        fault("1,2;;", 4);
        fault(";1,2", 0);
    }

    private static void promise6OtherCharacters() {
        fault("-1,0", 0);
        fault("+1,0", 0);
        fault(" 1,0", 0);
        fault("0,99 ", 4);
        fault("1,2; 3,4", 4);
        fault("1.5,2", 1);
        fault("/,0", 0);
        fault(":,0", 0);
        fault("1,2" + (char) 0xff15, 3);
        fault((char) 0x661 + ",2", 0);
        fault("1" + (char) 0x12c + "2", 1);
        fault("1,2\uffff", 3);
        fault("1,2" + (char) 0, 3);
        fault("1,2\n", 3);
    }

    private static void promise6TheFirstFaultCounts() {
        fault("1,2;3,4;302,5", 10);
        fault("1,2*0;3,101;x", 4);
        fault("x1,2*0", 0);
        fault("01,2;", 1);
    }

    /** The last character of a text may be the fault, and it may be the 60th. */
    private static void promise6FaultsOfAFullText() {
        String most = "0,0*1;0,0*1;0,0*1;0,0*1;0,0*1;0,0*1;0,0*1;0,0*1;0,0*1;0,0*1";
        good(most, 10);
        good(most + "0", 19);
        fault(most + ";", 60);
        fault(most + ",", 59);
        fault(most + "x", 59);
    }

    private static void good(String text, int ticks) {
        ShiftMaps car = new ShiftMaps();
        Checks.typeAll(car, text);
        Checks.isTrue("readDrive of " + text, car.readDrive() >= 0);
        Checks.due("ticks of " + text, car.count(0), ticks);
        Checks.due("text stays " + text, car.count(14), text.length());
    }

    private static void promise6GoodTexts() {
        good("0,0", 1);
        good("300,100*99", 99);
        good("299,99*1", 1);
        good("1,2;3,4", 2);
        good("10,20*30;40,50*60;70,80", 91);
        good("100,10*10", 10);
        good("200,0*9;9,9*9", 18);
        good("0,0;0,0;0,0;0,0;0,0;0,0;0,0;0,0;0,0;0,0;0,0;0,0;0,0;0,0;0,0", 15);
    }

    private static void promise6PassesTheTicks() {
        ShiftMaps car = new ShiftMaps();
        Checks.typeAll(car, "10,0;20,0*5;40,0*2");
        Checks.due("changes", car.readDrive(), 2);
        Checks.due("first tick", car.change(1, 0), 1);
        Checks.due("second tick", car.change(0, 0), 6);
        Checks.due("tick", car.count(0), 8);
        Checks.due("once more", car.readDrive(), 1);
        Checks.due("tick", car.count(0), 16);
        ShiftMaps none = new ShiftMaps();
        Checks.typeAll(none, "15,0*9");
        Checks.due("none", none.readDrive(), 0);
    }

    private static void promise6PedalsAreHundredths() {
        ShiftMaps kick = new ShiftMaps();
        Checks.drive(kick, 20, 0, 6);
        kick.byHand(true);
        Checks.typeAll(kick, "20,94;20,95");
        Checks.due("95 is a kickdown, 94 is none", kick.readDrive(), 1);
        Checks.due("why", kick.change(0, 3), 2);
        Checks.due("tick", kick.change(0, 0), 7);
        for (int hundredths = 0; hundredths <= 100; hundredths++) {
            ShiftMaps car = new ShiftMaps();
            float pedal = (float) hundredths / 100.0f;
            car.setMap(1, 0, Checks.bits(0));
            car.setMap(1, 1, Checks.bits(17 / pedal));
            int driven = Checks.drive(car, 17, pedal, 1);
            car.undo();
            Checks.typeAll(car, "17," + hundredths);
            Checks.due("pedal " + hundredths, car.readDrive(), driven);
        }
    }

    private static void promise6IsOneAct() {
        ShiftMaps car = new ShiftMaps();
        Checks.typeAll(car, "20,0*6;40,0*9");
        Checks.due("changes", car.readDrive(), 2);
        Checks.due("one state", car.count(13), 1);
        Checks.due("undo", car.undo(), 0);
        Checks.due("tick", car.count(0), 0);
        Checks.due("gear", car.car(0), 1);
        Checks.due("text stays", car.count(14), 13);
    }

    private static void promise6ReadsAnew() {
        ShiftMaps car = new ShiftMaps();
        Checks.typeAll(car, "20,");
        Checks.due("too early", car.readDrive(), -103);
        Checks.due("as early", car.readDrive(), -103);
        car.type('5');
        Checks.due("good then", car.readDrive(), 1);
        Checks.typeAll(car, "*3x");
        Checks.due("not allowed", car.readDrive(), -106);
        car.clearText();
        Checks.typeAll(car, "20,5*3");
        Checks.due("good again", car.readDrive(), 0);
        Checks.due("ticks", car.count(0), 4);
    }

    private static void promise8AnyCharacter() {
        char[] characters = {
            0, 1, '\n', ' ', '0', '~', 127, 128, 255, 256, 0x7fff, 0x8000, 0xd800, 0xdfff, 0xfffe, 0xffff
        };
        ShiftMaps car = new ShiftMaps();
        for (int i = 0; i < characters.length; i++) {
            Checks.due("type of " + (int) characters[i], car.type(characters[i]), i + 1);
        }
        Checks.due("no act", car.count(13), 0);
        Checks.due("fault", car.readDrive(), -100);
    }

    private static void promise8FullWith60() {
        ShiftMaps car = new ShiftMaps();
        for (int i = 1; i <= 60; i++) {
            Checks.due("type", car.type((char) (i * 1111)), i);
        }
        Checks.due("61st", car.type('1'), ShiftMaps.FULL);
        Checks.due("62nd", car.type((char) 0), ShiftMaps.FULL);
        Checks.due("length", car.count(14), 60);
        Checks.due("cleared", car.clearText(), 60);
        Checks.due("room again", car.type('1'), 1);
    }

    private static void promise9OfEmptyAndFullTexts() {
        ShiftMaps car = new ShiftMaps();
        Checks.due("empty at first", car.clearText(), 0);
        Checks.due("empty still", car.clearText(), 0);
        car.type('7');
        Checks.due("one", car.clearText(), 1);
        for (int i = 0; i < 61; i++) {
            car.type('7');
        }
        Checks.due("full", car.clearText(), 60);
        Checks.due("empty again", car.clearText(), 0);
        Checks.due("no act", car.count(13), 0);
    }

    private static void promise9Clears() {
        ShiftMaps car = new ShiftMaps();
        Checks.due("empty", car.clearText(), 0);
        Checks.typeAll(car, "12,34*5");
        Checks.due("seven", car.clearText(), 7);
        Checks.due("length", car.count(14), 0);
        Checks.due("fault of the empty text", car.readDrive(), -100);
        Checks.typeAll(car, "1,2");
        Checks.due("nothing left of the old one", car.readDrive(), 0);
        Checks.due("tick", car.count(0), 1);
        car.clearText();
        Checks.due("no act", car.count(13), 1);
        car.undo();
        Checks.due("undo leaves the text", car.count(14), 0);
    }
}
