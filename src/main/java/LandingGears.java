/** Landing gears: the plant, its sensors, and the two modules that vote, go through stages and watch. */
public final class LandingGears {
    public static final int NONE = -1;
    public static final int BAD = -2;

    private static final int MOST_TICKS = 1000;
    private static final int SIDES = 3;

    private static final int CLOSED_LEVEL = 24;
    private static final int FULL_HOLD = 200;
    private static final int FULL_PRESSURE = 360;

    private static final int VALVES = 5;
    private static final int GENERAL = 0;
    private static final int OPEN = 1;
    private static final int CLOSE = 2;
    private static final int EXTEND = 3;
    private static final int RETRACT = 4;

    private static final int CYLINDERS = 6;
    private static final int FIRST_GEAR = 3;

    private static final int SENSORS = 18;
    private static final int CHANNELS = 3;
    private static final int ALL_CHANNELS = 7;
    private static final int HANDLE_DOWN = 0;
    private static final int SWITCH_CLOSED = 1;
    private static final int GENERAL_FULL = 2;
    private static final int DOORS_SHUT = 3;
    private static final int DOORS_OPEN = 6;
    private static final int GEARS_DOWN = 9;
    private static final int GEARS_UP = 12;
    private static final int GEARS_BORNE = 15;

    private static final int ALWAYS_0 = 1;
    private static final int ALWAYS_1 = 2;
    private static final int CONTRARY = 3;

    private static final int NEVER_FED = 1;
    private static final int ALWAYS_FED = 2;

    private static final int MODULES = 2;
    private static final int REST = 0;
    private static final int WAKE = 1;
    private static final int OPENING = 2;
    private static final int MOVING = 3;
    private static final int HELD = 4;
    private static final int GAP = 5;
    private static final int CLOSING = 6;
    private static final int CALMING = 7;

    /** The orders of each stage as bits; MOVING has EXTEND or RETRACT besides, by the goal. */
    private static final int[] STAGE_ORDERS = {0, 1, 3, 3, 3, 1, 5, 1};

    private static final int WAKE_AGE = 2;
    private static final int CALMING_AGE = 10;
    private static final int GREATEST_AGE_TOLD = 99;

    private static final int GREEN = 1;
    private static final int ORANGE = 2;
    private static final int RED = 4;

    private static final int ROWS_KEPT = 64;
    private static final int ROW_NUMBERS = 3;
    private static final int ANOMALY_ROW = 10;

    private final Plant works;
    private final Sensors sensors;
    private final ControlModule[] modules;
    private final Log rows;
    private int ticks;
    private int lit;
    private boolean clashed;

    public LandingGears(int frontDoor, int sideDoor, int frontGear, int sideGear) {
        works = new Plant(frontDoor, sideDoor, frontGear, sideGear);
        sensors = new Sensors();
        sensors.feel(works);
        modules = new ControlModule[MODULES];
        for (int m = 0; m < MODULES; m++) {
            modules[m] = new ControlModule(m, sensors);
        }
        rows = new Log();
        ticks = 0;
        lit = GREEN;
        clashed = false;
    }

    public int handle(int down) {
        return outside(down, 1) ? BAD : works.moveHandle(down);
    }

    public int ground(int bits) {
        if (outside(bits, 7)) {
            return BAD;
        }
        int was = works.ground;
        works.ground = bits;
        return was;
    }

    public int channel(int sensor, int channel, int fault) {
        if (outside(sensor, SENSORS - 1) || outside(channel, CHANNELS - 1) || outside(fault, CONTRARY)) {
            return BAD;
        }
        return exchange(sensors.faults, sensor * CHANNELS + channel, fault);
    }

    public int cylinder(int k, int stuck) {
        if (outside(k, CYLINDERS - 1) || outside(stuck, 1)) {
            return BAD;
        }
        return exchange(works.cylinderStuck, k, stuck);
    }

    public int valve(int k, int stuck) {
        if (outside(k, VALVES - 1) || outside(stuck, ALWAYS_FED)) {
            return BAD;
        }
        return exchange(works.valveStuck, k, stuck);
    }

    public int stick(int stuck) {
        if (outside(stuck, 1)) {
            return BAD;
        }
        int was = works.switchStuck;
        works.switchStuck = stuck;
        return was;
    }

    public int module(int m, int dead) {
        if (outside(m, MODULES - 1) || outside(dead, 1)) {
            return BAD;
        }
        int was = modules[m].dead;
        modules[m].dead = dead;
        return was;
    }

    public int run(int n) {
        if (n < 1 || n > MOST_TICKS) {
            return BAD;
        }
        for (int i = 0; i < n; i++) {
            tick();
        }
        return lit;
    }

    public int settle(int n) {
        if (n < 1 || n > MOST_TICKS) {
            return BAD;
        }
        int gone = 0;
        while (gone < n && unsettled()) {
            tick();
            gone++;
        }
        return gone;
    }

    public int plant(int what) {
        if (what >= 0 && what < CYLINDERS) {
            return works.place[what];
        }
        if (what >= CYLINDERS && what < CYLINDERS + VALVES) {
            return works.pressure[what - CYLINDERS];
        }
        switch (what) {
            case 11: return works.level;
            case 12: return works.hold;
            case 13: return works.handle;
            case 14: return works.ground;
            case 15: return ticks;
            case 16: return works.scrapes;
            case 17: return ordered();
            default: return BAD;
        }
    }

    public int about(int m, int what) {
        return outside(m, MODULES - 1) ? BAD : modules[m].fact(what);
    }

    public int sees(int m, int sensor, int what) {
        if (outside(m, MODULES - 1) || outside(sensor, SENSORS - 1) || outside(what, 1)) {
            return BAD;
        }
        Votes votes = modules[m].votes;
        return what == 0 ? votes.seen[sensor] : votes.in[sensor];
    }

    public int tells(int sensor, int c) {
        if (outside(sensor, SENSORS - 1) || outside(c, CHANNELS - 1)) {
            return BAD;
        }
        return sensors.told(sensor, c);
    }

    public int lights() {
        return lit;
    }

    public int log(int i, int what) {
        return outside(what, ROW_NUMBERS - 1) ? BAD : rows.number(i, what);
    }

    public int logged() {
        return rows.count;
    }

    public int bound() {
        return 80 + 2 * works.greatestLength(0) + works.greatestLength(FIRST_GEAR);
    }

    public boolean safe() {
        return works.scrapes == 0 && !clashed;
    }

    private void tick() {
        int orders = ordered();
        if (both(orders, OPEN, CLOSE) || both(orders, EXTEND, RETRACT)) {
            clashed = true;
        }
        ticks++;
        works.move(orders);
        sensors.feel(works);
        int shown = 0;
        for (int m = 0; m < MODULES; m++) {
            if (modules[m].dead == 0) {
                modules[m].act(sensors, rows, ticks);
                shown |= modules[m].shows();
            }
        }
        lit = shown;
    }

    private int ordered() {
        int orders = 0;
        for (int m = 0; m < MODULES; m++) {
            orders |= modules[m].orders();
        }
        return orders;
    }

    private boolean unsettled() {
        boolean some = false;
        for (int m = 0; m < MODULES; m++) {
            some = some || modules[m].underWay();
        }
        return some;
    }

    private static boolean outside(int n, int greatest) {
        return n < 0 || n > greatest;
    }

    private static int exchange(int[] row, int index, int value) {
        int was = row[index];
        row[index] = value;
        return was;
    }

    private static int bit(boolean condition) {
        return condition ? 1 : 0;
    }

    private static boolean has(int bits, int index) {
        return (bits >> index & 1) == 1;
    }

    private static boolean both(int bits, int one, int other) {
        return has(bits, one) && has(bits, other);
    }

    /** The handle, the switch, the valves, the doors and the gears. */
    private static final class Plant {
        final int[] length;
        final int[] place;
        final int[] cylinderStuck;
        final int[] pressure;
        final int[] valveStuck;
        int handle;
        int level;
        int hold;
        int switchStuck;
        int ground;
        int scrapes;

        Plant(int frontDoor, int sideDoor, int frontGear, int sideGear) {
            length = new int[CYLINDERS];
            place = new int[CYLINDERS];
            cylinderStuck = new int[CYLINDERS];
            pressure = new int[VALVES];
            valveStuck = new int[VALVES];
            for (int k = 0; k < SIDES; k++) {
                length[k] = usableLength(k == 0 ? frontDoor : sideDoor);
                length[FIRST_GEAR + k] = usableLength(k == 0 ? frontGear : sideGear);
                place[FIRST_GEAR + k] = length[FIRST_GEAR + k];
            }
            handle = 1;
            level = 0;
            hold = 0;
            switchStuck = 0;
            ground = 7;
            scrapes = 0;
        }

        private static int usableLength(int wanted) {
            return wanted < 5 || wanted > 40 ? 15 : wanted;
        }

        /** The left one is as long as the right one, so two are enough. */
        int greatestLength(int front) {
            return Math.max(length[front], length[front + 1]);
        }

        int moveHandle(int down) {
            int was = handle;
            if (was != down) {
                handle = down;
                hold = FULL_HOLD;
            }
            return was;
        }

        void move(int orders) {
            if (switchStuck == 0) {
                moveSwitch();
            }
            movePressures(orders);
            for (int k = 0; k < SIDES; k++) {
                shift(k, push(OPEN, CLOSE));
            }
            for (int k = 0; k < SIDES; k++) {
                if (shift(FIRST_GEAR + k, push(EXTEND, RETRACT)) && place[k] != length[k]) {
                    scrapes++;
                }
            }
        }

        private void moveSwitch() {
            if (hold == 0) {
                level = Math.max(level - 2, 0);
            } else if (level < CLOSED_LEVEL) {
                level = Math.min(level + 3, CLOSED_LEVEL);
            } else {
                hold--;
            }
        }

        private void movePressures(int orders) {
            // The other valves go by GENERAL's pressure before this tick, so it is looked at first.
            boolean powered = full(GENERAL);
            changePressure(GENERAL, fed(GENERAL, has(orders, GENERAL) && level == CLOSED_LEVEL, true));
            for (int v = OPEN; v < VALVES; v++) {
                changePressure(v, fed(v, has(orders, v) && powered, powered));
            }
        }

        private boolean fed(int v, boolean asOrdered, boolean whenAlways) {
            if (valveStuck[v] == NEVER_FED) {
                return false;
            }
            return valveStuck[v] == ALWAYS_FED ? whenAlways : asOrdered;
        }

        private void changePressure(int v, boolean grows) {
            pressure[v] = grows
                ? Math.min(pressure[v] + 36, FULL_PRESSURE)
                : Math.max(pressure[v] - 10, 0);
        }

        private boolean full(int v) {
            return pressure[v] == FULL_PRESSURE;
        }

        private int push(int outward, int inward) {
            return bit(full(outward)) - bit(full(inward));
        }

        /** Whether the cylinder moved. */
        private boolean shift(int k, int step) {
            int wanted = place[k] + step;
            if (step == 0 || cylinderStuck[k] == 1 || wanted < 0 || wanted > length[k]) {
                return false;
            }
            place[k] = wanted;
            return true;
        }
    }

    /** What was true behind the latest tick, and what the channels tell of it. */
    private static final class Sensors {
        final int[] truth;
        final int[] faults;

        Sensors() {
            truth = new int[SENSORS];
            faults = new int[SENSORS * CHANNELS];
        }

        void feel(Plant p) {
            truth[HANDLE_DOWN] = p.handle;
            truth[SWITCH_CLOSED] = bit(p.level == CLOSED_LEVEL);
            truth[GENERAL_FULL] = bit(p.pressure[GENERAL] == FULL_PRESSURE);
            for (int k = 0; k < SIDES; k++) {
                int gear = FIRST_GEAR + k;
                truth[DOORS_SHUT + k] = bit(p.place[k] == 0);
                truth[DOORS_OPEN + k] = bit(p.place[k] == p.length[k]);
                truth[GEARS_DOWN + k] = bit(p.place[gear] == p.length[gear]);
                truth[GEARS_UP + k] = bit(p.place[gear] == 0);
                truth[GEARS_BORNE + k] = bit(has(p.ground, k));
            }
        }

        int told(int sensor, int channel) {
            switch (faults[sensor * CHANNELS + channel]) {
                case ALWAYS_0: return 0;
                case ALWAYS_1: return 1;
                case CONTRARY: return 1 - truth[sensor];
                default: return truth[sensor];
            }
        }

        int toldBits(int sensor) {
            return told(sensor, 0) | told(sensor, 1) << 1 | told(sensor, 2) << 2;
        }
    }

    /** What a module sees, and the channels it still heeds: none of a sensor that is INVALID. */
    private static final class Votes {
        final int[] seen;
        final int[] in;

        Votes(Sensors atFirst) {
            seen = new int[SENSORS];
            in = new int[SENSORS];
            for (int s = 0; s < SENSORS; s++) {
                seen[s] = atFirst.truth[s];
                in[s] = ALL_CHANNELS;
            }
        }

        void take(Sensors sensors) {
            for (int s = 0; s < SENSORS; s++) {
                if (in[s] != 0) {
                    takeOne(s, sensors.toldBits(s) & in[s]);
                }
            }
        }

        private void takeOne(int s, int yes) {
            if (yes == in[s] || yes == 0) {
                seen[s] = bit(yes != 0);
            } else if (in[s] == ALL_CHANNELS) {
                seen[s] = bit(Integer.bitCount(yes) == 2);
                in[s] = seen[s] == 1 ? yes : ALL_CHANNELS - yes;
            } else {
                in[s] = 0;
            }
        }

        boolean isSeen(int s) {
            return seen[s] == 1;
        }

        boolean allSeen(int first) {
            return seen[first] == 1 && seen[first + 1] == 1 && seen[first + 2] == 1;
        }

        boolean someSeen(int first) {
            return seen[first] == 1 || seen[first + 1] == 1 || seen[first + 2] == 1;
        }

        boolean someInvalid() {
            for (int s = 0; s < SENSORS; s++) {
                if (in[s] == 0) {
                    return true;
                }
            }
            return false;
        }
    }

    /** How long a module's orders stand and how long ago its handle turned, and what is wrong by that. */
    private static final class Watch {
        private static final int LONG_AGO = 216;

        final int[] orderedFor;
        int generalOffFor;
        int sinceTurn;

        Watch() {
            orderedFor = new int[VALVES];
            generalOffFor = 0;
            // A handle that never turned counts as one that turned long ago.
            sinceTurn = LONG_AGO;
        }

        void count(int orders, boolean turned) {
            sinceTurn = turned ? 0 : Math.min(sinceTurn + 1, LONG_AGO);
            for (int v = 0; v < VALVES; v++) {
                orderedFor[v] = has(orders, v) ? orderedFor[v] + 1 : 0;
            }
            generalOffFor = has(orders, GENERAL) ? 0 : generalOffFor + 1;
        }

        /** The first cause that holds, or 0. */
        int firstCause(Votes votes) {
            if (votes.someInvalid()) {
                return 1;
            }
            int cause = causeOfPower(votes);
            if (cause == 0) {
                cause = causeOfDoors(votes);
            }
            return cause == 0 ? causeOfGears(votes) : cause;
        }

        private int causeOfPower(Votes votes) {
            boolean closed = votes.isSeen(SWITCH_CLOSED);
            if (sinceTurn == 10 && !closed) {
                return 2;
            }
            if (sinceTurn >= LONG_AGO && closed) {
                return 3;
            }
            boolean pressed = votes.isSeen(GENERAL_FULL);
            if (orderedFor[GENERAL] >= 30 && !pressed) {
                return 4;
            }
            return generalOffFor >= 100 && pressed ? 5 : 0;
        }

        private int causeOfDoors(Votes votes) {
            if (orderedFor[OPEN] >= 70 && !votes.allSeen(DOORS_OPEN)) {
                return 6;
            }
            return orderedFor[CLOSE] >= 70 && !votes.allSeen(DOORS_SHUT) ? 7 : 0;
        }

        private int causeOfGears(Votes votes) {
            if (orderedFor[EXTEND] >= 70 && votes.someSeen(GEARS_UP)
                    || orderedFor[RETRACT] >= 70 && votes.someSeen(GEARS_DOWN)) {
                return 8;
            }
            boolean late = orderedFor[EXTEND] >= 100 && !votes.allSeen(GEARS_DOWN)
                || orderedFor[RETRACT] >= 100 && !votes.allSeen(GEARS_UP);
            return late ? 9 : 0;
        }
    }

    /** One of the two modules. */
    private static final class ControlModule {
        final int number;
        final Votes votes;
        final Watch watch;
        int stage;
        int age;
        int goal;
        int again;
        int cause;
        int dead;

        ControlModule(int number, Sensors atFirst) {
            this.number = number;
            votes = new Votes(atFirst);
            watch = new Watch();
            stage = REST;
            age = 0;
            goal = 1;
            again = 0;
            cause = 0;
            dead = 0;
        }

        int fact(int what) {
            switch (what) {
                case 0: return stage;
                case 1: return Math.min(age, GREATEST_AGE_TOLD);
                case 2: return goal;
                case 3: return orders();
                case 4: return cause;
                case 5: return again;
                case 6: return dead;
                default: return BAD;
            }
        }

        int orders() {
            if (dead == 1 || cause != 0 || outside(stage, CALMING)) {
                return 0;
            }
            int orders = STAGE_ORDERS[stage];
            if (stage == MOVING) {
                orders |= 1 << (goal == 1 ? EXTEND : RETRACT);
            }
            return orders;
        }

        boolean underWay() {
            return dead == 0 && cause == 0 && (stage != REST || votes.seen[HANDLE_DOWN] != goal);
        }

        int shows() {
            boolean between = false;
            for (int k = 0; k < SIDES; k++) {
                between = between || !votes.isSeen(GEARS_DOWN + k) && !votes.isSeen(GEARS_UP + k);
            }
            return (votes.allSeen(GEARS_DOWN) ? GREEN : 0) | (between ? ORANGE : 0) | (cause != 0 ? RED : 0);
        }

        void act(Sensors sensors, Log log, int tick) {
            votes.take(sensors);
            age++;
            boolean turned = votes.seen[HANDLE_DOWN] != goal;
            int next = turned ? turn() : nextStage();
            // An anomaly holds the stage, and nothing else: goal, again and age go on.
            if (cause == 0 && next != stage) {
                come(next);
                log.add(tick, number, next);
            }
            watch.count(orders(), turned);
            if (cause == 0) {
                cause = watch.firstCause(votes);
                if (cause != 0) {
                    log.add(tick, number, ANOMALY_ROW + cause);
                }
            }
        }

        private void come(int next) {
            // Only an AGAIN that is used up leaves GAP: the other way out, to CLOSING, has none.
            if (stage == GAP) {
                again = 0;
            }
            stage = next;
            age = 0;
        }

        /** Takes the handle seen as the goal and tells the stage that this calls for. */
        private int turn() {
            goal = votes.seen[HANDLE_DOWN];
            switch (stage) {
                case REST: return WAKE;
                case MOVING: return HELD;
                case GAP:
                case CLOSING:
                case CALMING:
                    again = 1;
                    return GAP;
                default: return stage;
            }
        }

        /** The stage that follows by age and by what is seen; each one is a tick old here at least. */
        private int nextStage() {
            switch (stage) {
                case WAKE: return age >= WAKE_AGE ? OPENING : WAKE;
                case OPENING: return votes.allSeen(DOORS_OPEN) ? HELD : OPENING;
                case MOVING: return gearsThere() ? HELD : MOVING;
                case HELD: return gearsMayGo() ? MOVING : GAP;
                case GAP: return again == 1 ? OPENING : CLOSING;
                case CLOSING: return votes.allSeen(DOORS_SHUT) ? CALMING : CLOSING;
                case CALMING: return age >= CALMING_AGE ? REST : CALMING;
                default: return stage;
            }
        }

        private boolean gearsThere() {
            return votes.allSeen(goal == 1 ? GEARS_DOWN : GEARS_UP);
        }

        private boolean gearsMayGo() {
            return !gearsThere() && (goal == 1 || !votes.someSeen(GEARS_BORNE));
        }
    }

    /** The latest rows, in a ring. */
    private static final class Log {
        final int[] numbers;
        int count;

        Log() {
            numbers = new int[ROWS_KEPT * ROW_NUMBERS];
            count = 0;
        }

        void add(int tick, int module, int what) {
            int at = Math.floorMod(count, ROWS_KEPT) * ROW_NUMBERS;
            numbers[at] = tick;
            numbers[at + 1] = module;
            numbers[at + 2] = what;
            count++;
        }

        int number(int i, int what) {
            if (i < 0 || i >= count || i < count - ROWS_KEPT) {
                return NONE;
            }
            return numbers[Math.floorMod(i, ROWS_KEPT) * ROW_NUMBERS + what];
        }
    }
}
