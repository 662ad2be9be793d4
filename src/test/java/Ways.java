/** The ways that the tests go again and again, and all that can be asked of an object. */
final class Ways {
    static final int STAGE = 0;
    static final int AGE = 1;
    static final int GOAL = 2;
    static final int ORDERS = 3;
    static final int CAUSE = 4;
    static final int AGAIN = 5;

    private Ways() { }

    static LandingGears plain() {
        return new LandingGears(15, 15, 15, 15);
    }

    /**
     * Lengths of 15, nothing borne, the handle moved up: WAKE 1, OPENING 3, HELD 41, MOVING 42, HELD 66, GAP 67,
     * CLOSING 68, CALMING 92, REST 102. GENERAL is at 360 from 17 on, OPEN from 27 to 67, RETRACT from 52 to 66, CLOSE
     * from 78 to 92; the level is 24 from 8 to 208, HOLD is 0 from 208 on.
     */
    static LandingGears goingUp() {
        return goingUp(15, 15);
    }

    static LandingGears goingUp(int doors, int gears) {
        LandingGears x = new LandingGears(doors, doors, gears, gears);
        x.ground(0);
        x.handle(0);
        return x;
    }

    /**
     * All UP, and at tick 110 the handle moved down: WAKE 111, OPENING 113, HELD 138, MOVING 139, HELD 163, GAP 164,
     * CLOSING 165, CALMING 189, REST 199. EXTEND is at 360 from 149 to 163; this ends at tick 139.
     */
    static LandingGears movingDown() {
        LandingGears x = goingUpTo(110);
        x.handle(1);
        to(x, 139);
        return x;
    }

    static void to(LandingGears x, int tick) {
        int left = tick - x.plant(15);
        if (left > 0) {
            x.run(left);
        }
    }

    static LandingGears goingUpTo(int tick) {
        LandingGears x = goingUp();
        to(x, tick);
        return x;
    }

    /** Both modules' stage and its age. */
    static void stage(String what, LandingGears x, int stage, int age) {
        for (int m = 0; m < 2; m++) {
            Due.is(what + ": stage of " + m, x.about(m, STAGE), stage);
            Due.is(what + ": age of " + m, x.about(m, AGE), age);
        }
    }

    static void cause(String what, LandingGears x, int cause) {
        for (int m = 0; m < 2; m++) {
            Due.is(what + ": cause of " + m, x.about(m, CAUSE), cause);
        }
    }

    /** Two channels of a sensor have the fault, so that what they tell is seen. */
    static void blind(LandingGears x, int sensor, int fault) {
        x.channel(sensor, 0, fault);
        x.channel(sensor, 1, fault);
    }

    /** Everything that can be asked, in 357 calls at most. */
    static int[] answers(LandingGears x) {
        int[] all = new int[357];
        int n = 0;
        for (int what = 0; what < 18; what++) {
            all[n++] = x.plant(what);
        }
        for (int m = 0; m < 2; m++) {
            for (int what = 0; what < 7; what++) {
                all[n++] = x.about(m, what);
            }
            for (int s = 0; s < 18; s++) {
                all[n++] = x.sees(m, s, 0);
                all[n++] = x.sees(m, s, 1);
            }
        }
        for (int i = 0; i < 54; i++) {
            all[n++] = x.tells(i / 3, i % 3);
        }
        all[n++] = x.lights();
        all[n++] = x.bound();
        all[n++] = x.safe() ? 1 : 0;
        int rows = x.logged();
        all[n++] = rows;
        for (int i = Math.max(0, rows - 64); i <= rows; i++) {
            for (int what = 0; what < 3; what++) {
                all[n++] = x.log(i, what);
            }
        }
        return all;
    }

    static void same(String what, LandingGears x, LandingGears y) {
        int[] one = answers(x);
        int[] other = answers(y);
        for (int i = 0; i < one.length; i++) {
            Due.is(what + ", answer " + i, one[i], other[i]);
        }
    }
}
