/** Each promise by its number: ordinary inputs, the edges, and wrong inputs. */
public final class PromisesTest {
    private static final int NONE = LandingGears.NONE;
    private static final int BAD = LandingGears.BAD;
    private static final int[] FAR = {Integer.MIN_VALUE, -1000, -2, -1, 1001, 1 << 20, Integer.MAX_VALUE};

    public static void main(String[] args) {
        promise1NewObject();
        promise1Lengths();
        promise2Handle();
        promise3Ground();
        promise4Channel();
        promise5Cylinder();
        promise6Valve();
        promise7Stick();
        promise8Module();
        promise9Run();
        promise10Settle();
        promise11Plant();
        promise12About();
        promise13Sees();
        promise14Tells();
        promise15Lights();
        promise16Log();
        promise17Logged();
        promise18Bound();
        promise19Scrape();
        promise19Clash();
        Due.end();
    }

    private static LandingGears plain() {
        return new LandingGears(15, 15, 15, 15);
    }

    /** Borne by nothing, the handle moved up: gone through in 102 ticks. */
    private static LandingGears goingUp() {
        LandingGears x = plain();
        x.ground(0);
        x.handle(0);
        return x;
    }

    private static void promise1NewObject() {
        Due.is("NONE", LandingGears.NONE, -1);
        Due.is("BAD", LandingGears.BAD, -2);
        LandingGears x = new LandingGears(6, 7, 8, 9);
        int[] plant = {0, 0, 0, 8, 9, 9, 0, 0, 0, 0, 0, 0, 0, 1, 7, 0, 0, 0};
        for (int what = 0; what < plant.length; what++) {
            Due.is("new plant(" + what + ")", x.plant(what), plant[what]);
        }
        int[] about = {0, 0, 1, 0, 0, 0, 0};
        int[] seen = {1, 0, 0, 1, 1, 1, 0, 0, 0, 1, 1, 1, 0, 0, 0, 1, 1, 1};
        for (int m = 0; m < 2; m++) {
            for (int what = 0; what < about.length; what++) {
                Due.is("new about(" + m + ", " + what + ")", x.about(m, what), about[what]);
            }
            for (int s = 0; s < seen.length; s++) {
                Due.is("new sees(" + m + ", " + s + ", 0)", x.sees(m, s, 0), seen[s]);
                Due.is("new sees(" + m + ", " + s + ", 1)", x.sees(m, s, 1), 7);
            }
        }
        for (int s = 0; s < seen.length; s++) {
            for (int c = 0; c < 3; c++) {
                Due.is("new tells(" + s + ", " + c + ")", x.tells(s, c), seen[s]);
            }
        }
        Due.is("new lights", x.lights(), 1);
        Due.is("new logged", x.logged(), 0);
        Due.is("new safe", x.safe(), true);
    }

    private static void promise1Lengths() {
        int[][] wantedAndUsed = {
            {4, 15}, {5, 5}, {6, 6}, {39, 39}, {40, 40}, {41, 15}, {0, 15}, {-7, 15},
            {Integer.MIN_VALUE, 15}, {Integer.MAX_VALUE, 15}};
        for (int[] pair : wantedAndUsed) {
            Due.is("front gear " + pair[0], new LandingGears(15, 15, pair[0], 20).plant(3), pair[1]);
            LandingGears sides = new LandingGears(15, 15, 20, pair[0]);
            Due.is("front gear beside " + pair[0], sides.plant(3), 20);
            Due.is("left gear " + pair[0], sides.plant(4), pair[1]);
            Due.is("right gear " + pair[0], sides.plant(5), pair[1]);
            LandingGears frontDoor = opened(new LandingGears(pair[0], 5, 15, 15));
            Due.is("front door " + pair[0], frontDoor.plant(0), pair[1]);
            Due.is("left door beside " + pair[0], frontDoor.plant(1), 5);
            LandingGears sideDoors = opened(new LandingGears(5, pair[0], 15, 15));
            Due.is("left door " + pair[0], sideDoors.plant(1), pair[1]);
            Due.is("right door " + pair[0], sideDoors.plant(2), pair[1]);
        }
    }

    /** The doors begin to move at tick 27; all of them have come to their ends by tick 66. */
    private static LandingGears opened(LandingGears x) {
        x.ground(0);
        x.handle(0);
        for (int i = 0; i < 200 && x.about(0, 0) != 4; i++) {
            x.run(1);
        }
        return x;
    }

    private static void promise2Handle() {
        LandingGears x = plain();
        Due.is("handle(1) where it is", x.handle(1), 1);
        Due.is("hold of a handle that stayed", x.plant(12), 0);
        Due.is("handle(0)", x.handle(0), 1);
        Due.is("handle moved", x.plant(13), 0);
        Due.is("hold of a handle that moved", x.plant(12), 200);
        x.run(20);
        int hold = x.plant(12);
        Due.is("handle(0) again", x.handle(0), 0);
        Due.is("hold stays", x.plant(12), hold);
        Due.is("handle(1)", x.handle(1), 0);
        Due.is("hold anew", x.plant(12), 200);
        Due.is("handle(2)", x.handle(2), BAD);
        for (int far : FAR) {
            Due.is("handle(" + far + ")", x.handle(far), BAD);
        }
        Due.is("handle stays on BAD", x.plant(13), 1);
    }

    private static void promise3Ground() {
        LandingGears x = plain();
        int was = 7;
        for (int bits = 0; bits <= 7; bits++) {
            Due.is("ground(" + bits + ")", x.ground(bits), was);
            Due.is("plant(14)", x.plant(14), bits);
            x.run(1);
            for (int k = 0; k < 3; k++) {
                Due.is("borne " + k + " of " + bits, x.sees(0, 15 + k, 0), bits >> k & 1);
            }
            was = bits;
        }
        Due.is("ground(8)", x.ground(8), BAD);
        for (int far : FAR) {
            Due.is("ground(" + far + ")", x.ground(far), BAD);
        }
        Due.is("ground stays on BAD", x.plant(14), 7);
    }

    private static void promise4Channel() {
        LandingGears x = plain();
        for (int s = 0; s < 18; s++) {
            for (int c = 0; c < 3; c++) {
                Due.is("channel had none", x.channel(s, c, 3), 0);
                Due.is("channel had 3", x.channel(s, c, 1), 3);
                Due.is("channel had 1", x.channel(s, c, 2), 1);
                Due.is("channel had 2", x.channel(s, c, (s + c) % 4), 2);
            }
        }
        Due.is("channel(18, 0, 0)", x.channel(18, 0, 0), BAD);
        Due.is("channel(0, 3, 0)", x.channel(0, 3, 0), BAD);
        Due.is("channel(0, 0, 4)", x.channel(0, 0, 4), BAD);
        for (int far : FAR) {
            Due.is("channel(far, 0, 1)", x.channel(far, 0, 1), BAD);
            Due.is("channel(0, far, 1)", x.channel(0, far, 1), BAD);
            Due.is("channel(0, 0, far)", x.channel(0, 0, far), BAD);
        }
        for (int s = 0; s < 18; s++) {
            for (int c = 0; c < 3; c++) {
                Due.is("channel kept", x.channel(s, c, 0), (s + c) % 4);
            }
        }
    }

    private static void promise5Cylinder() {
        LandingGears x = plain();
        for (int k = 0; k < 6; k++) {
            Due.is("cylinder free", x.cylinder(k, 1), 0);
            Due.is("cylinder stuck", x.cylinder(k, 1), 1);
            Due.is("cylinder stuck still", x.cylinder(k, 0), 1);
            Due.is("cylinder free again", x.cylinder(k, 0), 0);
        }
        Due.is("cylinder(6, 0)", x.cylinder(6, 0), BAD);
        Due.is("cylinder(0, 2)", x.cylinder(0, 2), BAD);
        for (int far : FAR) {
            Due.is("cylinder(far, 0)", x.cylinder(far, 0), BAD);
            Due.is("cylinder(0, far)", x.cylinder(0, far), BAD);
        }
        LandingGears stuck = goingUp();
        stuck.cylinder(1, 1);
        stuck.run(40);
        Due.is("a free door", stuck.plant(0), 14);
        Due.is("a stuck door", stuck.plant(1), 0);
        stuck.cylinder(1, 0);
        stuck.cylinder(5, 1);
        stuck.run(15 + 11 + 30);
        Due.is("the door set free", stuck.plant(1), 15);
        Due.is("a free gear", stuck.plant(4), 0);
        Due.is("a stuck gear", stuck.plant(5), 15);
    }

    private static void promise6Valve() {
        LandingGears x = plain();
        for (int v = 0; v < 5; v++) {
            Due.is("valve free", x.valve(v, 1), 0);
            Due.is("valve stuck 1", x.valve(v, 2), 1);
            Due.is("valve stuck 2", x.valve(v, 0), 2);
            Due.is("valve free again", x.valve(v, 0), 0);
        }
        Due.is("valve(5, 0)", x.valve(5, 0), BAD);
        Due.is("valve(0, 3)", x.valve(0, 3), BAD);
        for (int far : FAR) {
            Due.is("valve(far, 0)", x.valve(far, 0), BAD);
            Due.is("valve(0, far)", x.valve(0, far), BAD);
        }
        x.valve(0, 2);
        x.valve(3, 2);
        x.run(10);
        Due.is("GENERAL always fed, with no switch and no order", x.plant(6), 360);
        Due.is("EXTEND not before GENERAL's 360", x.plant(9), 0);
        x.run(1);
        Due.is("EXTEND always fed by GENERAL's 360", x.plant(9), 36);
        Due.is("OPEN not fed", x.plant(7), 0);
        x.valve(0, 1);
        x.run(1);
        Due.is("GENERAL never fed", x.plant(6), 350);
        Due.is("EXTEND by GENERAL's pressure before the tick", x.plant(9), 72);
        x.run(1);
        Due.is("EXTEND without GENERAL's 360", x.plant(9), 62);
        LandingGears never = goingUp();
        never.valve(1, 1);
        never.run(60);
        Due.is("OPEN is ordered", never.plant(17), 3);
        Due.is("OPEN never fed", never.plant(7), 0);
    }

    private static void promise7Stick() {
        LandingGears x = plain();
        Due.is("stick(1)", x.stick(1), 0);
        Due.is("stick(1) again", x.stick(1), 1);
        Due.is("stick(2)", x.stick(2), BAD);
        for (int far : FAR) {
            Due.is("stick(" + far + ")", x.stick(far), BAD);
        }
        x.handle(0);
        x.run(5);
        Due.is("stuck level", x.plant(11), 0);
        Due.is("stuck hold", x.plant(12), 200);
        Due.is("stick(0)", x.stick(0), 1);
        x.run(10);
        Due.is("level of a free switch", x.plant(11), 24);
        Due.is("hold of a free switch", x.plant(12), 198);
        x.stick(1);
        x.run(30);
        Due.is("level kept", x.plant(11), 24);
        Due.is("hold kept", x.plant(12), 198);
    }

    private static void promise8Module() {
        LandingGears x = plain();
        for (int m = 0; m < 2; m++) {
            Due.is("module alive", x.module(m, 1), 0);
            Due.is("module dead", x.module(m, 1), 1);
            Due.is("about(m, 6)", x.about(m, 6), 1);
            Due.is("about the other one", x.about(1 - m, 6), 0);
            Due.is("module dead still", x.module(m, 0), 1);
            Due.is("module alive again", x.module(m, 0), 0);
        }
        Due.is("module(2, 0)", x.module(2, 0), BAD);
        Due.is("module(0, 2)", x.module(0, 2), BAD);
        for (int far : FAR) {
            Due.is("module(far, 0)", x.module(far, 0), BAD);
            Due.is("module(0, far)", x.module(0, far), BAD);
        }
    }

    private static void promise9Run() {
        LandingGears x = plain();
        Due.is("run(1)", x.run(1), 1);
        Due.is("ticks", x.plant(15), 1);
        Due.is("run(1000)", x.run(1000), 1);
        Due.is("ticks", x.plant(15), 1001);
        Due.is("run(0)", x.run(0), BAD);
        for (int far : FAR) {
            Due.is("run(" + far + ")", x.run(far), BAD);
        }
        Due.is("ticks stay on BAD", x.plant(15), 1001);
        LandingGears up = goingUp();
        Due.is("run to the last tick DOWN", up.run(51), 1);
        Due.is("run into the moving", up.run(1), 2);
        Due.is("run to the last tick between", up.run(13), 2);
        Due.is("run to UP", up.run(1), 0);
    }

    private static void promise10Settle() {
        LandingGears x = goingUp();
        Due.is("settle before the handle is seen", x.settle(1000), 0);
        x.run(1);
        Due.is("settle(0)", x.settle(0), BAD);
        for (int far : FAR) {
            Due.is("settle(" + far + ")", x.settle(far), BAD);
        }
        Due.is("settle(1)", x.settle(1), 1);
        Due.is("settle(99)", x.settle(99), 99);
        Due.is("not at REST yet", x.about(0, 0), 7);
        Due.is("settle(1000)", x.settle(1000), 1);
        Due.is("at REST", x.about(0, 0), 0);
        Due.is("ticks", x.plant(15), 102);
        Due.is("settle at REST", x.settle(1), 0);

        LandingGears half = goingUp();
        half.run(20);
        half.module(0, 1);
        half.module(1, 1);
        Due.is("settle with both DEAD", half.settle(10), 0);
        half.module(1, 0);
        Due.is("settle with one DEAD", half.settle(1000), 82);
        half.module(0, 0);
        Due.is("settle, the other one woken", half.settle(5), 5);

        LandingGears ill = goingUp();
        ill.run(20);
        ill.channel(2, 0, 3);
        ill.run(1);
        ill.channel(2, 1, 3);
        ill.run(1);
        Due.is("an anomaly outside REST", ill.about(0, 4) * 10 + ill.about(0, 0), 12);
        Due.is("settle with anomalies", ill.settle(10), 0);
    }

    private static void promise11Plant() {
        LandingGears x = goingUp();
        int[][] behind = {
            // tick, door, gear, GENERAL, OPEN, CLOSE, EXTEND, RETRACT, level, hold, ordered
            {1, 0, 15, 0, 0, 0, 0, 0, 3, 200, 1},
            {3, 0, 15, 0, 0, 0, 0, 0, 9, 200, 3},
            {8, 0, 15, 36, 0, 0, 0, 0, 24, 200, 3},
            {9, 0, 15, 72, 0, 0, 0, 0, 24, 199, 3},
            {17, 0, 15, 360, 0, 0, 0, 0, 24, 191, 3},
            {18, 0, 15, 360, 36, 0, 0, 0, 24, 190, 3},
            {26, 0, 15, 360, 324, 0, 0, 0, 24, 182, 3},
            {27, 1, 15, 360, 360, 0, 0, 0, 24, 181, 3},
            {41, 15, 15, 360, 360, 0, 0, 0, 24, 167, 3},
            {42, 15, 15, 360, 360, 0, 0, 0, 24, 166, 19},
            {43, 15, 15, 360, 360, 0, 0, 36, 24, 165, 19},
            {52, 15, 14, 360, 360, 0, 0, 360, 24, 156, 19},
            {66, 15, 0, 360, 360, 0, 0, 360, 24, 142, 3},
            {67, 15, 0, 360, 360, 0, 0, 350, 24, 141, 1},
            {68, 15, 0, 360, 350, 0, 0, 340, 24, 140, 5},
            {69, 15, 0, 360, 340, 36, 0, 330, 24, 139, 5},
            {78, 14, 0, 360, 250, 360, 0, 240, 24, 130, 5},
            {92, 0, 0, 360, 110, 360, 0, 100, 24, 116, 1},
            {93, 0, 0, 360, 100, 350, 0, 90, 24, 115, 1},
            {102, 0, 0, 360, 10, 260, 0, 0, 24, 106, 0},
            {103, 0, 0, 350, 0, 250, 0, 0, 24, 105, 0},
            {208, 0, 0, 0, 0, 0, 0, 0, 24, 0, 0},
            {209, 0, 0, 0, 0, 0, 0, 0, 22, 0, 0},
            {220, 0, 0, 0, 0, 0, 0, 0, 0, 0, 0},
        };
        for (int[] row : behind) {
            x.run(row[0] - x.plant(15));
            String at = "tick " + row[0] + " plant ";
            for (int k = 0; k < 3; k++) {
                Due.is(at + k, x.plant(k), row[1]);
                Due.is(at + (3 + k), x.plant(3 + k), row[2]);
            }
            for (int what = 6; what <= 12; what++) {
                Due.is(at + what, x.plant(what), row[what - 3]);
            }
            Due.is(at + 17, x.plant(17), row[10]);
        }
        Due.is("handle", x.plant(13), 0);
        Due.is("ground", x.plant(14), 0);
        Due.is("ticks", x.plant(15), 220);
        Due.is("scrapes", x.plant(16), 0);
        Due.is("plant(18)", x.plant(18), BAD);
        for (int far : FAR) {
            Due.is("plant(" + far + ")", x.plant(far), BAD);
        }
    }

    private static void promise12About() {
        LandingGears x = goingUp();
        int[][] behind = {
            // tick, stage, age, orders
            {1, 1, 0, 1}, {2, 1, 1, 1}, {3, 2, 0, 3}, {40, 2, 37, 3}, {41, 4, 0, 3}, {42, 3, 0, 19},
            {65, 3, 23, 19}, {66, 4, 0, 3}, {67, 5, 0, 1}, {68, 6, 0, 5}, {91, 6, 23, 5}, {92, 7, 0, 1},
            {101, 7, 9, 1}, {102, 0, 0, 0}, {200, 0, 98, 0}, {201, 0, 99, 0}, {202, 0, 99, 0}, {900, 0, 99, 0},
        };
        for (int[] row : behind) {
            x.run(row[0] - x.plant(15));
            for (int m = 0; m < 2; m++) {
                String at = "tick " + row[0] + " about(" + m + ", ";
                Due.is(at + "0)", x.about(m, 0), row[1]);
                Due.is(at + "1)", x.about(m, 1), row[2]);
                Due.is(at + "2)", x.about(m, 2), 0);
                Due.is(at + "3)", x.about(m, 3), row[3]);
                Due.is(at + "4)", x.about(m, 4), 0);
                Due.is(at + "5)", x.about(m, 5), 0);
                Due.is(at + "6)", x.about(m, 6), 0);
            }
        }
        Due.is("about(2, 0)", x.about(2, 0), BAD);
        Due.is("about(0, 7)", x.about(0, 7), BAD);
        for (int far : FAR) {
            Due.is("about(far, 0)", x.about(far, 0), BAD);
            Due.is("about(1, far)", x.about(1, far), BAD);
        }
    }

    private static void promise13Sees() {
        LandingGears x = plain();
        x.channel(4, 1, 3);
        x.run(1);
        for (int m = 0; m < 2; m++) {
            Due.is("what two tell is seen", x.sees(m, 4, 0), 1);
            Due.is("the third one is OUT", x.sees(m, 4, 1), 5);
            Due.is("another sensor", x.sees(m, 5, 1), 7);
        }
        x.channel(4, 1, 0);
        x.channel(4, 2, 3);
        x.module(1, 1);
        x.run(1);
        Due.is("INVALID has no channels", x.sees(0, 4, 1), 0);
        Due.is("what was seen stays", x.sees(0, 4, 0), 1);
        Due.is("a DEAD one keeps its channels", x.sees(1, 4, 1), 5);
        Due.is("sees(2, 0, 0)", x.sees(2, 0, 0), BAD);
        Due.is("sees(0, 18, 0)", x.sees(0, 18, 0), BAD);
        Due.is("sees(0, 0, 2)", x.sees(0, 0, 2), BAD);
        for (int far : FAR) {
            Due.is("sees(far, 0, 0)", x.sees(far, 0, 0), BAD);
            Due.is("sees(0, far, 0)", x.sees(0, far, 0), BAD);
            Due.is("sees(0, 0, far)", x.sees(0, 0, far), BAD);
        }
    }

    private static void promise14Tells() {
        LandingGears x = plain();
        x.handle(0);
        Due.is("tells by the latest tick", x.tells(0, 0), 1);
        x.channel(0, 0, 1);
        Due.is("always 0", x.tells(0, 0), 0);
        x.channel(0, 0, 2);
        Due.is("always 1", x.tells(0, 0), 1);
        x.channel(0, 0, 3);
        Due.is("the contrary", x.tells(0, 0), 0);
        Due.is("the other channels", x.tells(0, 1) + x.tells(0, 2), 2);
        x.run(1);
        Due.is("the contrary behind a tick", x.tells(0, 0), 1);
        Due.is("the others behind a tick", x.tells(0, 1) + x.tells(0, 2), 0);
        x.channel(0, 0, 2);
        Due.is("always 1 behind a tick", x.tells(0, 0), 1);
        x.channel(0, 0, 1);
        Due.is("always 0 behind a tick", x.tells(0, 0), 0);
        x.ground(2);
        Due.is("borne by the latest tick", x.tells(15, 0), 1);
        x.run(1);
        Due.is("not borne", x.tells(15, 0), 0);
        Due.is("borne", x.tells(16, 2), 1);
        Due.is("tells(18, 0)", x.tells(18, 0), BAD);
        Due.is("tells(0, 3)", x.tells(0, 3), BAD);
        for (int far : FAR) {
            Due.is("tells(far, 0)", x.tells(far, 0), BAD);
            Due.is("tells(0, far)", x.tells(0, far), BAD);
        }
    }

    private static void promise15Lights() {
        LandingGears x = goingUp();
        x.run(55);
        Due.is("ORANGE", x.lights(), 2);
        x.module(0, 1);
        x.module(1, 1);
        Due.is("as they were behind the latest tick", x.lights(), 2);
        x.run(1);
        Due.is("none of DEAD modules", x.lights(), 0);
        x.module(1, 0);
        Due.is("still as behind the latest tick", x.lights(), 0);
        x.run(1);
        Due.is("of one module", x.lights(), 2);
        x.channel(9, 0, 2);
        x.run(1);
        x.channel(9, 1, 2);
        Due.is("RED with ORANGE", x.run(1), 6);
        Due.is("RED stays", x.run(300), 6);

        LandingGears split = goingUp();
        split.run(60);
        split.module(1, 1);
        split.run(42);
        Due.is("module 0 sees UP", split.lights(), 0);
        split.handle(1);
        split.run(1);
        split.settle(1000);
        Due.is("DOWN again", split.lights(), 1);
        split.module(1, 0);
        split.module(0, 1);
        split.channel(11, 1, 1);
        split.run(1);
        Due.is("seen anew by module 1", split.lights(), 1);
    }

    private static void promise16Log() {
        LandingGears x = goingUp();
        x.run(150);
        int[][] stages = {{1, 1}, {3, 2}, {41, 4}, {42, 3}, {66, 4}, {67, 5}, {68, 6}, {92, 7}, {102, 0}};
        for (int i = 0; i < stages.length * 2; i++) {
            Due.is("log(" + i + ", 0)", x.log(i, 0), stages[i / 2][0]);
            Due.is("log(" + i + ", 1)", x.log(i, 1), i % 2);
            Due.is("log(" + i + ", 2)", x.log(i, 2), stages[i / 2][1]);
        }
        Due.is("no row yet", x.log(18, 0), NONE);
        Due.is("no such row", x.log(-1, 0), NONE);
        Due.is("no such row", x.log(Integer.MIN_VALUE, 2), NONE);
        Due.is("no such row", x.log(Integer.MAX_VALUE, 2), NONE);
        Due.is("log(0, 3)", x.log(0, 3), BAD);
        Due.is("log(-1, 3)", x.log(-1, 3), BAD);
        for (int far : FAR) {
            Due.is("log(0, far)", x.log(0, far), BAD);
            Due.is("log(far, far)", x.log(far, far), BAD);
        }
        x.channel(0, 0, 3);
        x.run(1);
        x.channel(0, 1, 3);
        x.run(1);
        Due.is("an anomaly's tick", x.log(18, 0), 152);
        Due.is("an anomaly's module", x.log(19, 1), 1);
        Due.is("an anomaly's cause", x.log(18, 2), 11);
    }

    private static void promise17Logged() {
        LandingGears x = goingUp();
        int[][] behind = {{1, 2}, {2, 2}, {3, 4}, {40, 4}, {41, 6}, {42, 8}, {102, 18}, {200, 18}};
        for (int[] row : behind) {
            x.run(row[0] - x.plant(15));
            Due.is("logged behind tick " + row[0], x.logged(), row[1]);
        }
        int down = 0;
        for (int i = 0; i < 6; i++) {
            down = 1 - down;
            x.handle(down);
            x.run(250);
        }
        Due.is("logged beyond what is kept", x.logged(), 18 * 7);
        Due.is("the first row kept", x.log(18 * 7 - 64, 0) > 0, true);
        Due.is("the row before it", x.log(18 * 7 - 65, 0), NONE);
    }

    private static void promise18Bound() {
        Due.is("bound of 15", plain().bound(), 125);
        Due.is("front ones greatest", new LandingGears(20, 9, 40, 5).bound(), 160);
        Due.is("side ones greatest", new LandingGears(9, 20, 5, 40).bound(), 160);
        Due.is("least", new LandingGears(5, 5, 5, 5).bound(), 95);
        Due.is("greatest", new LandingGears(40, 40, 40, 40).bound(), 200);
        Due.is("others count as 15", new LandingGears(4, 41, 0, -1).bound(), 125);
        int[] lengths = {5, 6, 15, 23, 39, 40};
        for (int frontDoor : lengths) {
            for (int sideDoor : lengths) {
                for (int frontGear : lengths) {
                    for (int sideGear : lengths) {
                        LandingGears x = new LandingGears(frontDoor, sideDoor, frontGear, sideGear);
                        x.ground(frontGear == 6 ? 4 : 0);
                        goesThroughInBound(x, 1);
                        goesThroughInBound(x, sideDoor + 1);
                        goesThroughInBound(x, 300);
                    }
                }
            }
        }
    }

    /** One move up and one down, each from REST, with a pause behind it. */
    private static void goesThroughInBound(LandingGears x, int pause) {
        for (int down = 0; down <= 1; down++) {
            x.handle(down);
            x.run(1);
            int took = 1 + x.settle(1000);
            Due.is("in bound " + x.bound() + ": " + took, took <= x.bound(), true);
            Due.is("to REST", x.about(0, 0) + x.about(1, 0) + x.about(0, 4) + x.about(1, 4), 0);
            Due.is("where it was sent", x.plant(4), down == 1 || x.plant(14) != 0 ? x.plant(4) : 0);
            x.run(pause);
        }
        Due.is("safe", x.safe(), true);
    }

    private static void promise19Scrape() {
        LandingGears x = goingUp();
        x.valve(4, 2);
        x.run(26);
        Due.is("no gear moves yet", x.safe(), true);
        x.run(1);
        Due.is("a scrape", x.safe(), false);
        Due.is("one each gear", x.plant(16), 3);
        x.run(13);
        Due.is("one each tick and gear", x.plant(16), 42);
        x.run(1);
        Due.is("none with OPEN doors", x.plant(16), 42);
        x.run(500);
        Due.is("unsafe for good", x.safe(), false);

        LandingGears one = new LandingGears(40, 5, 15, 15);
        one.ground(0);
        one.handle(0);
        one.valve(4, 2);
        one.cylinder(3, 1);
        one.run(31);
        Due.is("a stuck gear does not scrape", one.plant(16), 8);
        one.cylinder(3, 0);
        one.run(1);
        Due.is("only under the front door", one.plant(16), 9);
    }

    private static void promise19Clash() {
        LandingGears x = goingUp();
        x.run(42);
        Due.is("module 0 retracts", x.about(0, 3), 19);
        x.module(0, 1);
        x.run(13);
        x.handle(1);
        x.run(2);
        Due.is("module 1 extends", x.about(1, 3), 11);
        Due.is("a DEAD one orders nothing", x.plant(17), 11);
        Due.is("safe so far", x.safe(), true);
        x.module(0, 0);
        Due.is("it orders as it did", x.plant(17), 27);
        Due.is("no tick has begun with it", x.safe(), true);
        x.run(1);
        Due.is("EXTEND and RETRACT", x.safe(), false);
        Due.is("without a scrape", x.plant(16), 0);

        LandingGears y = goingUp();
        y.run(5);
        y.module(0, 1);
        y.run(65);
        Due.is("module 1 closes", y.plant(17), 5);
        y.module(0, 0);
        Due.is("module 0 opens", y.plant(17), 7);
        Due.is("no tick has begun with it", y.safe(), true);
        y.module(0, 1);
        y.run(1);
        Due.is("DEAD before the tick", y.safe(), true);
        y.module(0, 0);
        y.run(1);
        Due.is("OPEN and CLOSE", y.safe(), false);
        Due.is("without a scrape", y.plant(16), 0);
    }
}
