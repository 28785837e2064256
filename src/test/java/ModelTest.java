import java.util.Random;

/** Long runs of calls, asked of the program and of the model; the seeds are fixed. */
public final class ModelTest {
    private static final int RUNS = 3000;
    private static final String[] TEXTS = {
        "20,0*9;5,0*9;20,0*9", "60,100*5;60,0*30", "0,0*99;300,100*99;0,0*99", "1,2;3", "305,1", "10,0*0",
        "44,95*3;44,94;44,95*40", "1,2;x", "120,50*60;30,95*2", "9,101", "25,10*7;8,10*7;25,10*7;8,10*7"
    };

    private final Random random;
    private final ShiftMaps program = new ShiftMaps();
    private final Model model = new Model();
    private final int run;
    private int calls = 0;
    private float steadySpeed = 20;

    private ModelTest(int run) {
        this.run = run;
        this.random = new Random(run * 7919L + 17);
    }

    public static void main(String[] args) {
        for (int run = 0; run < RUNS; run++) {
            new ModelTest(run).calls();
        }
        Checks.finish();
    }

    private void calls() {
        if (run % 2 == 0) {
            quick();
        }
        while (calls < 440) {
            act();
            for (int i = 0; i < 2; i++) {
                told();
            }
        }
        sweep();
    }

    private String name(String call) {
        calls++;
        return "run " + run + ", call " + calls + ", " + call;
    }

    private void quick() {
        Checks.due(name("setNumber"), program.setNumber(1, 0), model.setNumber(1, 0));
        Checks.due(name("setNumber"), program.setNumber(0, 2), model.setNumber(0, 2));
    }

    private int pick(int... numbers) {
        return numbers[random.nextInt(numbers.length)];
    }

    private int speed() {
        switch (random.nextInt(12)) {
            case 0: return pick(Checks.bits(300) + 1, Integer.MIN_VALUE, -1, 0x7fc00000, 0x7f800000, Integer.MAX_VALUE);
            case 1: return random.nextInt(Checks.bits(300) + 1);
            case 2: return pick(0, 1, Checks.bits(300), Checks.bits(50), Checks.bits(90), Checks.bits(130));
            case 3: return Checks.bits(random.nextFloat() * 300);
            case 4: return border();
            case 5: steadySpeed = random.nextFloat() * 100; return Checks.bits(steadySpeed);
            case 6: steadySpeed = random.nextInt(200); return Checks.bits(steadySpeed);
            default:
                return Checks.bits(Math.min(300, Math.max(0.0f, steadySpeed + pick(-15, -8, 0, 0, 8, 15))));
        }
    }

    /** A speed at a border of the maps, or beside it. */
    private int border() {
        float border = model.border(1 + random.nextInt(4), pedal(), random.nextBoolean());
        float near = random.nextBoolean() ? border : random.nextBoolean() ? Math.nextUp(border) : Math.nextDown(border);
        return near > 0 && near <= 300 ? Checks.bits(near) : 0;
    }

    private int pedal() {
        switch (random.nextInt(16)) {
            case 0: return pick(Checks.bits(1) + 1, Integer.MIN_VALUE, -1, 0x7fc00000, Integer.MAX_VALUE);
            case 1: return random.nextInt(Checks.bits(1) + 1);
            case 2: return pick(1, Checks.bits(0.95f), Checks.bits(0.95f) - 1, Checks.bits(1));
            case 3: return Checks.bits(random.nextFloat());
            case 4: return Checks.bits(1);
            case 5: return Checks.bits(0.5f);
            default: return 0;
        }
    }

    private void act() {
        switch (random.nextInt(24)) {
            case 0: setMap(); break;
            case 1: setNumber(); break;
            case 2: byHand(); break;
            case 3: Checks.due(name("undo"), program.undo(), model.undo()); break;
            case 4: Checks.due(name("keep"), program.keep(), model.keep()); break;
            case 5: Checks.due(name("restore"), program.restore(), model.restore()); break;
            case 6: text(); break;
            case 7: Checks.due(name("readDrive"), program.readDrive(), model.readDrive()); break;
            case 8: case 9: case 10: shift(); break;
            default: drive(); break;
        }
    }

    private void setMap() {
        int gear = random.nextInt(7);
        int what = random.nextInt(8) == 0 ? pick(-1, 4) : random.nextInt(4);
        int bits = random.nextInt(6) == 0 ? Checks.bits(model.map(gear, what)) : speed();
        Checks.due(name("setMap"), program.setMap(gear, what, bits), model.setMap(gear, what, bits));
    }

    private void setNumber() {
        int which = random.nextInt(6) - 1;
        int value = random.nextBoolean() ? random.nextInt(24) - 1 : pick(0, 1, 2, 3, 4, 5, 20, 21, 99, 100, 101);
        Checks.due(name("setNumber"), program.setNumber(which, value), model.setNumber(which, value));
    }

    private void byHand() {
        boolean is = random.nextInt(3) == 0;
        Checks.due(name("byHand"), program.byHand(is), model.byHand(is));
    }

    private void shift() {
        boolean up = random.nextBoolean();
        Checks.due(name("shift"), program.shift(up), model.shift(up));
    }

    private void drive() {
        int speed = speed();
        int pedal = pedal();
        int ticks = random.nextInt(20) == 0 ? pick(0, -1, 99, 100) : 1 + random.nextInt(8);
        Checks.due(name("drive"), program.drive(speed, pedal, ticks), model.drive(speed, pedal, ticks));
    }

    private void text() {
        Checks.due(name("clearText"), program.clearText(), model.clearText());
        String text = TEXTS[random.nextInt(TEXTS.length)];
        for (int i = 0; i < text.length() && calls < 430; i++) {
            char character = random.nextInt(60) == 0 ? "0123456789,;* x".charAt(random.nextInt(15)) : text.charAt(i);
            Checks.due(name("type"), program.type(character), model.type(character));
        }
        Checks.due(name("readDrive"), program.readDrive(), model.readDrive());
    }

    private void told() {
        switch (random.nextInt(10)) {
            case 0: forecast(); break;
            case 1: settles(); break;
            case 2: change(random.nextInt(13) - 1, random.nextInt(7) - 1); break;
            case 3: count(random.nextInt(17) - 1); break;
            case 4: pressed(random.nextInt(7) - 1); break;
            case 5: border(random.nextInt(6), pedal(), random.nextBoolean()); break;
            case 6: map(random.nextInt(7), random.nextInt(6) - 1); break;
            case 7: number(random.nextInt(6) - 1); break;
            case 8: Checks.dueFloat(name("force"), program.force(), model.force()); break;
            default: car(random.nextInt(9) - 1); break;
        }
    }

    private void forecast() {
        int speed = speed();
        int pedal = pedal();
        Checks.due(name("wouldChoose"), program.wouldChoose(speed, pedal), model.wouldChoose(speed, pedal));
    }

    private void settles() {
        int speed = speed();
        int pedal = pedal();
        Checks.due(name("settles"), program.settles(speed, pedal), model.settles(speed, pedal));
    }

    private void change(int back, int what) {
        Checks.due(name("change"), program.change(back, what), model.change(back, what));
    }

    private void count(int what) {
        Checks.due(name("count " + what), program.count(what), model.count(what));
    }

    private void pressed(int clutch) {
        Checks.dueFloat(name("pressed " + clutch), program.pressed(clutch), model.pressed(clutch));
    }

    private void border(int gear, int pedal, boolean up) {
        Checks.dueFloat(name("border"), program.border(gear, pedal, up), model.border(gear, pedal, up));
    }

    private void map(int gear, int what) {
        Checks.dueFloat(name("map"), program.map(gear, what), model.map(gear, what));
    }

    private void number(int which) {
        Checks.due(name("number"), program.number(which), model.number(which));
    }

    private void car(int what) {
        Checks.due(name("car " + what), program.car(what), model.car(what));
    }

    private void sweep() {
        for (int what = -1; what <= 15; what++) {
            count(what);
        }
        for (int what = -1; what <= 7; what++) {
            car(what);
        }
        for (int back = 0; back <= 4; back++) {
            for (int what = 0; what <= 4; what++) {
                change(back, what);
            }
        }
        for (int clutch = 0; clutch <= 4; clutch++) {
            pressed(clutch);
        }
    }
}
