/** The gears of a car that are chosen by maps; ../shared/DOC.md says what each call promises. */
public final class ShiftMaps {
    public static final int UNKNOWN = -1;
    public static final int BAD_VALUE = -2;
    public static final int FULL = -3;
    public static final int NOT_POSSIBLE = -4;
    public static final int NONE = -5;

    private static final int GEARS = 5;
    private static final int CLUTCHES = 5;
    private static final int MOST_TICKS = 99;
    private static final int LAST_TICK = 99999;
    private static final int FAULT_BASE = -100;
    private static final int QUIET_TICKS = 100;
    private static final int FORECAST_TICKS = 200;

    // Bits of floats that are not negative stand in the order of the floats, and those of
    // -0.0f, of NaN and of all that is negative lie outside of 0 to these.
    private static final int BITS_OF_300 = 0x43960000;
    private static final int BITS_OF_1 = 0x3f800000;

    private static final int LOW = 0;
    private static final int HIGH = 1;
    private static final int DISTANCE = 2;
    private static final int BOUND = 3;

    private static final int TIME = 0;
    private static final int LAG = 1;
    private static final int WINDOW = 2;
    private static final int HOLD = 3;

    private static final int UP = 0;
    private static final int DOWN = 1;
    private static final int KICKDOWN = 2;
    private static final int BY_HAND = 3;
    private static final int GUARD = 4;

    private final State now = new State();
    private final State snapshot = new State();
    // One state for all forecasts: a new one for each call would fill the room of a long run.
    private final State forecast = new State();
    private final History history = new History();
    private final DriveText text = new DriveText();
    private boolean hasSnapshot = false;

    public ShiftMaps() {
    }

    // ---- settings

    public int setMap(int gear, int what, int bits) {
        if (what < LOW || what > BOUND) {
            return BAD_VALUE;
        }
        if (!Maps.has(gear, what)) {
            return UNKNOWN;
        }
        if (!isSpeed(bits)) {
            return BAD_VALUE;
        }
        float speed = floatOf(bits);
        if (now.maps.speed(gear, what) == speed) {
            return NONE;
        }
        history.record(now);
        now.maps.put(gear, what, speed);
        return 1;
    }

    public int setNumber(int which, int value) {
        if (which < TIME || which > HOLD) {
            return UNKNOWN;
        }
        if (!now.allows(which, value)) {
            return BAD_VALUE;
        }
        if (which <= LAG && now.isChanging()) {
            return NOT_POSSIBLE;
        }
        int previous = now.setting(which);
        if (previous == value) {
            return NONE;
        }
        history.record(now);
        now.putSetting(which, value);
        return previous;
    }

    public int byHand(boolean is) {
        if (now.handMode == is) {
            return NONE;
        }
        history.record(now);
        now.handMode = is;
        return now.gear;
    }

    // ---- driving

    public int drive(int speed, int pedal, int ticks) {
        if (!isSpeed(speed) || !isPedal(pedal) || ticks < 1 || ticks > MOST_TICKS) {
            return BAD_VALUE;
        }
        if (now.tick() + ticks > LAST_TICK) {
            return FULL;
        }
        history.record(now);
        return now.passTicks(floatOf(speed), floatOf(pedal), ticks);
    }

    public int readDrive() {
        int fault = text.read();
        if (fault != DriveText.NO_FAULT) {
            return FAULT_BASE - fault;
        }
        if (now.tick() + text.ticksOfAllParts() > LAST_TICK) {
            return FULL;
        }
        history.record(now);
        int changes = 0;
        for (int part = 0; part < text.partCount(); part++) {
            float speed = (float) text.speedOf(part);
            float pedal = (float) text.hundredthsOf(part) / 100.0f;
            changes += now.passTicks(speed, pedal, text.ticksOf(part));
        }
        return changes;
    }

    public int shift(boolean up) {
        int next = up ? now.gear + 1 : now.gear - 1;
        if (!now.mayShiftTo(next)) {
            return NOT_POSSIBLE;
        }
        history.record(now);
        now.begin(BY_HAND, next);
        return next;
    }

    // ---- texts

    public int type(char character) {
        return text.append(character) ? text.length() : FULL;
    }

    public int clearText() {
        int previous = text.length();
        text.clear();
        return previous;
    }

    // ---- history

    public int undo() {
        return history.takeLatestInto(now) ? history.size() : NONE;
    }

    public int keep() {
        snapshot.copyFrom(now);
        hasSnapshot = true;
        return now.tick();
    }

    public int restore() {
        if (!hasSnapshot) {
            return NONE;
        }
        history.record(now);
        now.copyFrom(snapshot);
        return now.tick();
    }

    // ---- what is told

    public int car(int what) {
        switch (what) {
            case 0:
                return now.gear;
            case 1:
                return now.isChanging() ? now.target : NONE;
            case 2:
                return now.isChanging() ? now.done : NONE;
            case 3:
                return now.held;
            case 4:
                return now.handMode ? 1 : 0;
            case 5:
                return now.opening();
            case 6:
                return now.closing();
            default:
                return BAD_VALUE;
        }
    }

    public float pressed(int clutch) {
        return clutch >= 0 && clutch < CLUTCHES ? now.pressureOf(clutch) : notANumber();
    }

    public float force() {
        return now.greaterPressure();
    }

    public float map(int gear, int what) {
        return Maps.has(gear, what) ? now.maps.speed(gear, what) : notANumber();
    }

    public float border(int gear, int pedal, boolean up) {
        if (!Maps.has(gear, LOW) || !isPedal(pedal)) {
            return notANumber();
        }
        float position = floatOf(pedal);
        return up ? now.maps.upFrom(gear, position) : now.maps.downTo(gear, position);
    }

    public int number(int which) {
        return now.setting(which);
    }

    public int wouldChoose(int speed, int pedal) {
        if (!isSpeed(speed) || !isPedal(pedal)) {
            return BAD_VALUE;
        }
        forecast.copyFrom(now);
        return forecast.passTick(floatOf(speed), floatOf(pedal)) ? forecast.target : NONE;
    }

    public int settles(int speed, int pedal) {
        if (!isSpeed(speed) || !isPedal(pedal)) {
            return BAD_VALUE;
        }
        forecast.copyFrom(now);
        float steadySpeed = floatOf(speed);
        float steadyPedal = floatOf(pedal);
        int last = 0;
        for (int tick = 1; tick <= FORECAST_TICKS + QUIET_TICKS; tick++) {
            if (tick > last + QUIET_TICKS || last > FORECAST_TICKS) {
                break;
            }
            if (forecast.passTick(steadySpeed, steadyPedal)) {
                last = tick;
            }
        }
        return last > FORECAST_TICKS ? NONE : last;
    }

    public int change(int back, int what) {
        return back < 0 || what < 0 || what >= Log.WIDTH ? BAD_VALUE : now.log.told(back, what);
    }

    public int count(int what) {
        if (what == State.COUNTS) {
            return history.size();
        }
        if (what == State.COUNTS + 1) {
            return text.length();
        }
        return now.counted(what);
    }

    // ---- floats

    private static boolean isSpeed(int bits) {
        return bits >= 0 && bits <= BITS_OF_300;
    }

    private static boolean isPedal(int bits) {
        return bits >= 0 && bits <= BITS_OF_1;
    }

    /**
     * The float of bits that isSpeed() allows. LANGUAGE.md leaves no Float.intBitsToFloat; halving
     * is exact here, as what is left at the end is a float, and so is all ahead of it.
     */
    private static float floatOf(int bits) {
        int exponent = bits >> 23;
        int digits = bits & 0x7fffff;
        if (exponent > 0) {
            digits += 0x800000;
        } else {
            exponent = 1;
        }
        float value = (float) digits;
        for (int halved = exponent; halved < 150; halved++) {
            value = value * 0.5f;
        }
        return value;
    }

    /** The document names this division; it is a constant, so nothing is divided in a run. */
    private static float notANumber() {
        return 0.0f / 0.0f;
    }

    /** The speeds of the maps and the bounds. */
    private static final class Maps {
        private static final int[] AT_FIRST = {
            15, 30, 45, 60, 0,
            40, 75, 110, 150, 0,
            5, 8, 10, 12, 0,
            50, 90, 130, 180, 300
        };

        private final float[] speeds = new float[AT_FIRST.length];

        Maps() {
            for (int i = 0; i < speeds.length; i++) {
                speeds[i] = (float) AT_FIRST[i];
            }
        }

        static boolean has(int gear, int what) {
            if (what < LOW || what > BOUND || gear < 1) {
                return false;
            }
            return what == BOUND ? gear <= GEARS : gear < GEARS;
        }

        float speed(int gear, int what) {
            int cell = what * GEARS + gear - 1;
            return cell >= 0 && cell < speeds.length ? speeds[cell] : 0.0f;
        }

        void put(int gear, int what, float speed) {
            if (has(gear, what)) {
                speeds[what * GEARS + gear - 1] = speed;
            }
        }

        float upFrom(int gear, float pedal) {
            float low = speed(gear, LOW);
            return low + (speed(gear, HIGH) - low) * pedal;
        }

        float downTo(int gear, float pedal) {
            return upFrom(gear, pedal) - speed(gear, DISTANCE);
        }

        boolean exceeds(float speed, int gear) {
            return speed > speed(gear, BOUND);
        }

        void copyFrom(Maps other) {
            System.arraycopy(other.speeds, 0, speeds, 0, speeds.length);
        }
    }

    /** The latest changes, in a ring of rows that are used again. */
    private static final class Log {
        static final int WIDTH = 5;
        static final int BEGUN = 0;
        static final int WHY = 3;

        private static final int ROWS = 10;

        private final int[] cells = new int[ROWS * WIDTH];
        private int next = 0;
        private int size = 0;

        void add(int tick, int oldGear, int newGear, int why, boolean holds) {
            int cell = next * WIDTH;
            if (cell < 0 || cell + WIDTH > cells.length) {
                return;
            }
            cells[cell] = tick;
            cells[cell + 1] = oldGear;
            cells[cell + 2] = newGear;
            cells[cell + 3] = why;
            cells[cell + 4] = holds ? 1 : 0;
            next = next + 1 < ROWS ? next + 1 : 0;
            size = Math.min(size + 1, ROWS);
        }

        int told(int back, int what) {
            if (back < 0 || back >= size || what < 0 || what >= WIDTH) {
                return NONE;
            }
            int row = next - 1 - back;
            int cell = (row < 0 ? row + ROWS : row) * WIDTH + what;
            return cell >= 0 && cell < cells.length ? cells[cell] : NONE;
        }

        void copyFrom(Log other) {
            System.arraycopy(other.cells, 0, cells, 0, cells.length);
            next = other.next;
            size = other.size;
        }
    }

    /** All that undo() and restore() bring back. */
    private static final class State {
        /** How many of the numbers of count() belong to the state; they are the first ones. */
        static final int COUNTS = 13;

        private static final int TICKS = 0;
        private static final int CHANGES = 1;
        private static final int HOLDS = 6;
        private static final int TICKS_IN_GEAR_1 = 7;
        private static final int TICKS_IN_CHANGE = 12;

        private static final int NO_GEAR = 0;
        private static final int NO_REASON = -1;

        private static final int[] LOWER_CLUTCH = {0, 0, 0, 0, 1};
        private static final int[] HIGHER_CLUTCH = {4, 3, 2, 1, 2};
        private static final int[] SETTINGS_AT_FIRST = {5, 1, 20, 30};

        private final Maps maps = new Maps();
        private final Log log = new Log();
        private final int[] counts = new int[COUNTS];
        private final int[] settings = new int[SETTINGS_AT_FIRST.length];
        private int gear = 1;
        private int target = NO_GEAR;
        private int done = 0;
        private int held = 0;
        private boolean handMode = false;
        private float latestSpeed = 0.0f;
        private float latestPedal = 0.0f;

        State() {
            System.arraycopy(SETTINGS_AT_FIRST, 0, settings, 0, settings.length);
        }

        void copyFrom(State other) {
            maps.copyFrom(other.maps);
            log.copyFrom(other.log);
            System.arraycopy(other.counts, 0, counts, 0, counts.length);
            System.arraycopy(other.settings, 0, settings, 0, settings.length);
            gear = other.gear;
            target = other.target;
            done = other.done;
            held = other.held;
            handMode = other.handMode;
            latestSpeed = other.latestSpeed;
            latestPedal = other.latestPedal;
        }

        int setting(int which) {
            return which >= 0 && which < settings.length ? settings[which] : UNKNOWN;
        }

        void putSetting(int which, int value) {
            if (which >= 0 && which < settings.length) {
                settings[which] = value;
            }
        }

        boolean allows(int which, int value) {
            switch (which) {
                case TIME:
                    return value >= 2 && value <= 20 && value > setting(LAG);
                case LAG:
                    return value >= 0 && value < setting(TIME);
                default:
                    return value >= 1 && value <= 100;
            }
        }

        int counted(int what) {
            return what >= 0 && what < counts.length ? counts[what] : BAD_VALUE;
        }

        private void countOneMore(int what) {
            if (what >= 0 && what < counts.length) {
                counts[what]++;
            }
        }

        int tick() {
            return counted(TICKS);
        }

        boolean isChanging() {
            return target != NO_GEAR;
        }

        // ---- ticks

        int passTicks(float speed, float pedal, int ticks) {
            int changes = 0;
            for (int i = 0; i < ticks; i++) {
                if (passTick(speed, pedal)) {
                    changes++;
                }
            }
            return changes;
        }

        /** Tells whether a change begins in the tick. */
        boolean passTick(float speed, float pedal) {
            goOnWithChange();
            int why = isChanging() ? NO_REASON : reasonToChange(speed, pedal);
            if (held > 0) {
                held--;
            }
            if (why != NO_REASON) {
                begin(why, gearChosenBy(why, speed));
            }
            latestSpeed = speed;
            latestPedal = pedal;
            countTick();
            return why != NO_REASON;
        }

        private void goOnWithChange() {
            if (!isChanging()) {
                return;
            }
            done++;
            if (done >= setting(TIME)) {
                gear = target;
                target = NO_GEAR;
            }
        }

        private int reasonToChange(float speed, float pedal) {
            if (gear < GEARS && maps.exceeds(speed, gear)) {
                return GUARD;
            }
            if (isDeep(pedal) && !isDeep(latestPedal) && kickdownGear(speed) != NO_GEAR) {
                return KICKDOWN;
            }
            if (handMode || held > 0) {
                return NO_REASON;
            }
            if (gear < GEARS && speed > maps.upFrom(gear, pedal)) {
                return UP;
            }
            if (gear > 1 && speed < maps.downTo(gear - 1, pedal)) {
                return DOWN;
            }
            return NO_REASON;
        }

        private static boolean isDeep(float pedal) {
            return pedal >= 0.95f;
        }

        private int kickdownGear(float speed) {
            for (int lower = Math.max(gear - 2, 1); lower < gear; lower++) {
                if (!maps.exceeds(speed, lower)) {
                    return lower;
                }
            }
            return NO_GEAR;
        }

        private int gearChosenBy(int why, float speed) {
            switch (why) {
                case KICKDOWN:
                    return kickdownGear(speed);
                case DOWN:
                    return gear - 1;
                default:
                    return gear + 1;
            }
        }

        private void countTick() {
            countOneMore(TICKS);
            countOneMore(TICKS_IN_GEAR_1 + gear - 1);
            if (isChanging()) {
                countOneMore(TICKS_IN_CHANGE);
            }
        }

        // ---- changes

        boolean mayShiftTo(int next) {
            return handMode && !isChanging() && next >= 1 && next <= GEARS
                    && !maps.exceeds(latestSpeed, next);
        }

        void begin(int why, int next) {
            boolean holds = swings(why);
            log.add(tick(), gear, next, why, holds);
            target = next;
            done = 0;
            countOneMore(CHANGES + why);
            if (holds) {
                held = setting(HOLD);
                countOneMore(HOLDS);
            }
        }

        /** Whether a change that is not logged yet is the third one to and fro in the window. */
        private boolean swings(int why) {
            if (why != UP && why != DOWN) {
                return false;
            }
            int other = why == UP ? DOWN : UP;
            return log.told(0, Log.WHY) == other && log.told(1, Log.WHY) == why
                    && tick() - log.told(1, Log.BEGUN) <= setting(WINDOW);
        }

        // ---- clutches

        private static boolean isClosed(int clutch, int inGear) {
            int row = inGear - 1;
            if (row < 0 || row >= LOWER_CLUTCH.length || row >= HIGHER_CLUTCH.length) {
                return false;
            }
            return clutch == LOWER_CLUTCH[row] || clutch == HIGHER_CLUTCH[row];
        }

        /** The clutch that is closed in the first gear, but not in the second one. */
        private static int closedOnlyIn(int first, int second) {
            for (int clutch = 0; clutch < CLUTCHES; clutch++) {
                if (isClosed(clutch, first) && !isClosed(clutch, second)) {
                    return clutch;
                }
            }
            return NONE;
        }

        int opening() {
            return isChanging() ? closedOnlyIn(gear, target) : NONE;
        }

        int closing() {
            return isChanging() ? closedOnlyIn(target, gear) : NONE;
        }

        float pressureOf(int clutch) {
            if (isChanging() && clutch == opening()) {
                return openingPressure();
            }
            if (isChanging() && clutch == closing()) {
                return closingPressure();
            }
            return isClosed(clutch, gear) ? 1.0f : 0.0f;
        }

        private float openingPressure() {
            int time = setting(TIME);
            return time > 0 ? 1.0f - (float) done / (float) time : 0.0f;
        }

        private float closingPressure() {
            int lag = setting(LAG);
            int time = setting(TIME);
            if (done <= lag || time <= lag) {
                return 0.0f;
            }
            return (float) (done - lag) / (float) (time - lag);
        }

        float greaterPressure() {
            if (!isChanging()) {
                return 1.0f;
            }
            float opens = openingPressure();
            float closes = closingPressure();
            return opens >= closes ? opens : closes;
        }
    }

    /** The states ahead of the latest acts, in a ring of states that are used again. */
    private static final class History {
        private static final int MOST = 4;

        private final State[] states = new State[MOST];
        private int next = 0;
        private int size = 0;

        History() {
            for (int i = 0; i < states.length; i++) {
                states[i] = new State();
            }
        }

        int size() {
            return size;
        }

        void record(State state) {
            State row = rowAt(next);
            if (row == null) {
                return;
            }
            row.copyFrom(state);
            next = next + 1 < MOST ? next + 1 : 0;
            size = Math.min(size + 1, MOST);
        }

        boolean takeLatestInto(State state) {
            int latest = next > 0 ? next - 1 : MOST - 1;
            State row = rowAt(latest);
            if (size == 0 || row == null) {
                return false;
            }
            state.copyFrom(row);
            next = latest;
            size--;
            return true;
        }

        private State rowAt(int index) {
            return index >= 0 && index < states.length ? states[index] : null;
        }
    }

    /** The text of a drive, and the parts that were read from it. */
    private static final class DriveText {
        static final int NO_FAULT = -1;

        private static final int MOST_CHARACTERS = 60;
        /** A part takes three characters or more, and one between two parts. */
        private static final int MOST_PARTS = (MOST_CHARACTERS + 1) / 4;

        private static final int SPEED = 0;
        private static final int PEDAL = 1;
        private static final int TICKS = 2;
        private static final int WIDTH = 3;
        private static final int[] GREATEST = {300, 100, 99};

        // Not a String: any character may be typed, and texts hold those up to 255 alone.
        private final char[] characters = new char[MOST_CHARACTERS];
        private int length = 0;

        private final int[] numbers = new int[MOST_PARTS * WIDTH];
        private int parts = 0;
        private int place = SPEED;
        private int value = 0;
        private int digits = 0;

        boolean append(char character) {
            if (length < 0 || length >= characters.length) {
                return false;
            }
            characters[length] = character;
            length++;
            return true;
        }

        int length() {
            return length;
        }

        void clear() {
            length = 0;
        }

        int partCount() {
            return parts;
        }

        int speedOf(int part) {
            return numberOf(part, SPEED);
        }

        int hundredthsOf(int part) {
            return numberOf(part, PEDAL);
        }

        int ticksOf(int part) {
            return numberOf(part, TICKS);
        }

        int ticksOfAllParts() {
            int ticks = 0;
            for (int part = 0; part < parts; part++) {
                ticks += ticksOf(part);
            }
            return ticks;
        }

        /** Reads the parts; tells the fault, or NO_FAULT. */
        int read() {
            parts = 0;
            expectNumber(SPEED);
            for (int i = 0; i < length && i < characters.length; i++) {
                if (!takes(characters[i])) {
                    return i;
                }
            }
            return endPart() ? NO_FAULT : length;
        }

        private void expectNumber(int ofPlace) {
            place = ofPlace;
            value = 0;
            digits = 0;
        }

        /** Whether the character is allowed where the reading stands. */
        private boolean takes(char character) {
            switch (character) {
                case ',':
                    return place == SPEED && endNumber(PEDAL);
                case '*':
                    return place == PEDAL && endNumber(TICKS);
                case ';':
                    return endPart();
                default:
                    return character >= '0' && character <= '9' && takesDigit(character - '0');
            }
        }

        private boolean takesDigit(int digit) {
            if (digits > 0 && value == 0) {
                return false;
            }
            if (place == TICKS && digits == 0 && digit == 0) {
                return false;
            }
            int longer = value * 10 + digit;
            if (place < 0 || place >= GREATEST.length || longer > GREATEST[place]) {
                return false;
            }
            value = longer;
            digits++;
            return true;
        }

        private boolean endNumber(int nextPlace) {
            if (digits == 0) {
                return false;
            }
            putNumber(place, value);
            expectNumber(nextPlace);
            return true;
        }

        private boolean endPart() {
            boolean tellsTicks = place == TICKS;
            if (place == SPEED || !endNumber(SPEED)) {
                return false;
            }
            if (!tellsTicks) {
                putNumber(TICKS, 1);
            }
            parts++;
            return true;
        }

        private void putNumber(int ofPlace, int number) {
            int cell = parts * WIDTH + ofPlace;
            if (cell >= 0 && cell < numbers.length) {
                numbers[cell] = number;
            }
        }

        private int numberOf(int part, int ofPlace) {
            int cell = part * WIDTH + ofPlace;
            return cell >= 0 && cell < numbers.length ? numbers[cell] : 0;
        }
    }
}
