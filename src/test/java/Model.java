import java.util.ArrayList;
import java.util.List;
import java.util.regex.Matcher;
import java.util.regex.Pattern;

/**
 * The document once more, written apart from the program and with other means: copies of whole
 * states, lists, a pattern for texts. ModelTest asks both the same.
 */
final class Model {
    private static final int[][] CLOSED = {{}, {0, 4}, {0, 3}, {0, 2}, {0, 1}, {1, 2}};
    private static final String PART =
            "(?:[1-9]?[0-9]|[12][0-9][0-9]|300),(?:[1-9]?[0-9]|100)(?:\\*[1-9][0-9]?)?";
    private static final Pattern DRIVE = Pattern.compile(PART + "(?:;" + PART + ")*");

    private static final class Change {
        final int tick;
        final int from;
        final int to;
        final String why;
        final boolean holds;

        Change(int tick, int from, int to, String why, boolean holds) {
            this.tick = tick;
            this.from = from;
            this.to = to;
            this.why = why;
            this.holds = holds;
        }
    }

    private static final class Car implements Cloneable {
        float[][] maps = {{15, 30, 45, 60}, {40, 75, 110, 150}, {5, 8, 10, 12}, {50, 90, 130, 180, 300}};
        int[] numbers = {5, 1, 20, 30};
        List<Change> changes = new ArrayList<>();
        List<Integer> gearsBehindTicks = new ArrayList<>();
        int ticksInChange = 0;
        int gear = 1;
        int to = 0;
        int k = 0;
        int held = 0;
        boolean hand = false;
        float speed = 0;
        float pedal = 0;

        Car copy() {
            try {
                Car copy = (Car) clone();
                copy.maps = new float[4][];
                for (int i = 0; i < 4; i++) {
                    copy.maps[i] = maps[i].clone();
                }
                copy.numbers = numbers.clone();
                copy.changes = new ArrayList<>(changes);
                copy.gearsBehindTicks = new ArrayList<>(gearsBehindTicks);
                return copy;
            } catch (CloneNotSupportedException impossible) {
                throw new IllegalStateException(impossible);
            }
        }

        int tick() {
            return gearsBehindTicks.size();
        }

        float bound(int g) {
            return maps[3][g - 1];
        }

        float up(int g, float p) {
            float span = maps[1][g - 1] - maps[0][g - 1];
            float part = span * p;
            return maps[0][g - 1] + part;
        }

        float down(int g, float p) {
            return up(g, p) - maps[2][g - 1];
        }

        boolean run(float v, float p) {
            if (to != 0 && ++k == numbers[0]) {
                gear = to;
                to = 0;
            }
            String why = null;
            int chosen = 0;
            if (to == 0) {
                boolean kick = p >= 0.95f && pedal < 0.95f;
                int lowest = 0;
                if (gear >= 2 && bound(gear - 1) >= v) {
                    lowest = gear - 1;
                }
                if (gear >= 3 && bound(gear - 2) >= v) {
                    lowest = gear - 2;
                }
                if (v > bound(gear) && gear < 5) {
                    why = "guard";
                    chosen = gear + 1;
                } else if (kick && lowest != 0) {
                    why = "kickdown";
                    chosen = lowest;
                } else if (hand) {
                    chosen = 0;
                } else if (held != 0) {
                    chosen = 0;
                } else if (gear < 5 && v > up(gear, p)) {
                    why = "up";
                    chosen = gear + 1;
                } else if (gear > 1 && v < down(gear - 1, p)) {
                    why = "down";
                    chosen = gear - 1;
                }
            }
            held = held == 0 ? 0 : held - 1;
            if (why != null) {
                boolean holds = false;
                int n = changes.size();
                if (n >= 2 && (why.equals("up") || why.equals("down"))) {
                    String last = changes.get(n - 1).why;
                    String first = changes.get(n - 2).why;
                    String three = first + " " + last + " " + why;
                    holds = (three.equals("up down up") || three.equals("down up down"))
                            && changes.get(n - 2).tick >= tick() - numbers[2];
                }
                begin(chosen, why, holds);
            }
            speed = v;
            pedal = p;
            gearsBehindTicks.add(gear);
            if (to != 0) {
                ticksInChange++;
            }
            return why != null;
        }

        void begin(int chosen, String why, boolean holds) {
            changes.add(new Change(tick(), gear, chosen, why, holds));
            to = chosen;
            k = 0;
            if (holds) {
                held = numbers[3];
            }
        }

        int countWhy(String why) {
            int count = 0;
            for (Change change : changes) {
                count += change.why.equals(why) ? 1 : 0;
            }
            return count;
        }
    }

    private Car car = new Car();
    private Car kept = null;
    private final List<Car> history = new ArrayList<>();
    private String text = "";

    private void record() {
        history.add(car.copy());
        if (history.size() > 4) {
            history.remove(0);
        }
    }

    private static boolean within(int bits, float most) {
        float value = Float.intBitsToFloat(bits);
        return value >= 0 && value <= most && bits != Float.floatToRawIntBits(-0.0f);
    }

    private static boolean good(int speed, int pedal) {
        return within(speed, 300) && within(pedal, 1);
    }

    int setMap(int gear, int what, int bits) {
        if (what < 0 || what > 3) {
            return -2;
        }
        if (gear < 1 || gear > (what == 3 ? 5 : 4)) {
            return -1;
        }
        if (!within(bits, 300)) {
            return -2;
        }
        if (Float.floatToRawIntBits(car.maps[what][gear - 1]) == bits) {
            return -5;
        }
        record();
        car.maps[what][gear - 1] = Float.intBitsToFloat(bits);
        return 1;
    }

    int setNumber(int which, int value) {
        if (which < 0 || which > 3) {
            return -1;
        }
        int least = which == 0 ? Math.max(2, car.numbers[1] + 1) : which == 1 ? 0 : 1;
        int most = which == 0 ? 20 : which == 1 ? car.numbers[0] - 1 : 100;
        if (value < least || value > most) {
            return -2;
        }
        if (which < 2 && car.to != 0) {
            return -4;
        }
        int old = car.numbers[which];
        if (old == value) {
            return -5;
        }
        record();
        car.numbers[which] = value;
        return old;
    }

    int byHand(boolean is) {
        if (car.hand == is) {
            return -5;
        }
        record();
        car.hand = is;
        return car.gear;
    }

    int drive(int speed, int pedal, int ticks) {
        if (!good(speed, pedal) || ticks < 1 || ticks > 99) {
            return -2;
        }
        if (car.tick() + ticks > 99999) {
            return -3;
        }
        record();
        return run(Float.intBitsToFloat(speed), Float.intBitsToFloat(pedal), ticks);
    }

    private int run(float speed, float pedal, int ticks) {
        int changes = 0;
        for (int i = 0; i < ticks; i++) {
            changes += car.run(speed, pedal) ? 1 : 0;
        }
        return changes;
    }

    int readDrive() {
        for (int end = 1; end <= text.length(); end++) {
            Matcher start = DRIVE.matcher(text.substring(0, end));
            if (!start.matches() && !start.hitEnd()) {
                return -100 - (end - 1);
            }
        }
        if (!DRIVE.matcher(text).matches()) {
            return -100 - text.length();
        }
        List<int[]> parts = new ArrayList<>();
        int sum = 0;
        for (String part : text.split(";")) {
            String[] numbers = part.split("[,*]");
            int ticks = numbers.length == 3 ? Integer.parseInt(numbers[2]) : 1;
            parts.add(new int[] {Integer.parseInt(numbers[0]), Integer.parseInt(numbers[1]), ticks});
            sum += ticks;
        }
        if (car.tick() + sum > 99999) {
            return -3;
        }
        record();
        int changes = 0;
        for (int[] part : parts) {
            changes += run(part[0], part[1] / 100.0f, part[2]);
        }
        return changes;
    }

    int shift(boolean up) {
        int next = car.gear + (up ? 1 : -1);
        if (!car.hand || car.to != 0 || next < 1 || next > 5 || car.speed > car.bound(next)) {
            return -4;
        }
        record();
        car.begin(next, "hand", false);
        return next;
    }

    int type(char character) {
        if (text.length() == 60) {
            return -3;
        }
        text += character;
        return text.length();
    }

    int clearText() {
        int length = text.length();
        text = "";
        return length;
    }

    int undo() {
        if (history.isEmpty()) {
            return -5;
        }
        car = history.remove(history.size() - 1);
        return history.size();
    }

    int keep() {
        kept = car.copy();
        return car.tick();
    }

    int restore() {
        if (kept == null) {
            return -5;
        }
        record();
        car = kept.copy();
        return car.tick();
    }

    private int onlyIn(int gear, int other) {
        for (int clutch : CLOSED[gear]) {
            if (CLOSED[other][0] != clutch && CLOSED[other][1] != clutch) {
                return clutch;
            }
        }
        throw new IllegalStateException();
    }

    int car(int what) {
        boolean changes = car.to != 0;
        switch (what) {
            case 0: return car.gear;
            case 1: return changes ? car.to : -5;
            case 2: return changes ? car.k : -5;
            case 3: return car.held;
            case 4: return car.hand ? 1 : 0;
            case 5: return changes ? onlyIn(car.gear, car.to) : -5;
            case 6: return changes ? onlyIn(car.to, car.gear) : -5;
            default: return -2;
        }
    }

    float pressed(int clutch) {
        if (clutch < 0 || clutch > 4) {
            return Float.NaN;
        }
        if (car.to != 0 && clutch == onlyIn(car.gear, car.to)) {
            float part = (float) car.k / car.numbers[0];
            return 1.0f - part;
        }
        if (car.to != 0 && clutch == onlyIn(car.to, car.gear)) {
            float above = (float) car.k - car.numbers[1];
            float below = (float) car.numbers[0] - car.numbers[1];
            return car.k <= car.numbers[1] ? 0.0f : above / below;
        }
        return CLOSED[car.gear][0] == clutch || CLOSED[car.gear][1] == clutch ? 1.0f : 0.0f;
    }

    float force() {
        return car.to == 0 ? 1.0f : Math.max(pressed(car(5)), pressed(car(6)));
    }

    float map(int gear, int what) {
        if (what < 0 || what > 3 || gear < 1 || gear > car.maps[what].length) {
            return Float.NaN;
        }
        return car.maps[what][gear - 1];
    }

    float border(int gear, int pedal, boolean up) {
        if (gear < 1 || gear > 4 || !within(pedal, 1)) {
            return Float.NaN;
        }
        float p = Float.intBitsToFloat(pedal);
        return up ? car.up(gear, p) : car.down(gear, p);
    }

    int number(int which) {
        return which < 0 || which > 3 ? -1 : car.numbers[which];
    }

    int wouldChoose(int speed, int pedal) {
        if (!good(speed, pedal)) {
            return -2;
        }
        Car next = car.copy();
        return next.run(Float.intBitsToFloat(speed), Float.intBitsToFloat(pedal)) ? next.to : -5;
    }

    int settles(int speed, int pedal) {
        if (!good(speed, pedal)) {
            return -2;
        }
        Car later = car.copy();
        boolean[] begins = new boolean[1001];
        for (int i = 1; i <= 1000; i++) {
            begins[i] = later.run(Float.intBitsToFloat(speed), Float.intBitsToFloat(pedal));
        }
        for (int last = 0; last <= 200; last++) {
            boolean quiet = last == 0 || begins[last];
            for (int i = last + 1; i <= last + 100; i++) {
                quiet = quiet && !begins[i];
            }
            if (quiet) {
                return last;
            }
        }
        return -5;
    }

    int change(int back, int what) {
        if (back < 0 || what < 0 || what > 4) {
            return -2;
        }
        if (back >= 10 || back >= car.changes.size()) {
            return -5;
        }
        Change change = car.changes.get(car.changes.size() - 1 - back);
        int why = List.of("up", "down", "kickdown", "hand", "guard").indexOf(change.why);
        return new int[] {change.tick, change.from, change.to, why, change.holds ? 1 : 0}[what];
    }

    int count(int what) {
        if (what >= 1 && what <= 5) {
            return car.countWhy(List.of("up", "down", "kickdown", "hand", "guard").get(what - 1));
        }
        if (what >= 7 && what <= 11) {
            int count = 0;
            for (int gear : car.gearsBehindTicks) {
                count += gear == what - 6 ? 1 : 0;
            }
            return count;
        }
        switch (what) {
            case 0: return car.tick();
            case 6:
                int holds = 0;
                for (Change change : car.changes) {
                    holds += change.holds ? 1 : 0;
                }
                return holds;
            case 12: return car.ticksInChange;
            case 13: return history.size();
            case 14: return text.length();
            default: return -2;
        }
    }
}
