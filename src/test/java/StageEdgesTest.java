/** The edges of "3 MODULES": stages and their ages, turns, orders, an ANOMALY's stage, DEAD modules and LIGHTS. */
public final class StageEdgesTest {
    private static final int ORDERED = 17;
    private static final int[] STAGE_ORDERS = {0, 1, 3, -1, 3, 1, 5, 1};

    public static void main(String[] args) {
        restAtFirst();
        ordersOfEachStage();
        wakeIsTwoTicksOld();
        openingUntilAllDoorsAreOpen();
        movingUntilAllGearsAreThere();
        heldIsOneTickOld();
        heldWithOneGearNotThere();
        heldWithOneGearBorne();
        borneDoesNotMatterDown();
        gapIsOneTickOld();
        closingUntilAllDoorsAreShut();
        calmingIsTenTicksOld();
        agesFromZero();
        ageToldUpTo99();
        turnInEachStage();
        turnBeforeAnyOther();
        againBothWays();
        turnsThatNoModuleSees();
        goalIsTheHandleSeen();
        goesByWhatIsSeen();
        anomalyInEachStage();
        againWithAnAnomaly();
        deadSeesNothing();
        deadDoesNothing();
        deadGivesNoOrders();
        deadGivesNoLights();
        deadIsAsItWas();
        deadBeforeTheFirstTick();
        deadWithAnAnomaly();
        valveOrderedByOneOfBoth();
        greenByAllGears();
        orangeBySomeGear();
        redByOneModule();
        redWithoutGreen();
        lightsOfOneOfBoth();
        Due.end();
    }

    private static void about(String what, LandingGears x, int number, int want) {
        for (int m = 0; m < 2; m++) {
            Due.is(what + ": about(" + m + ", " + number + ") at " + x.plant(15), x.about(m, number), want);
        }
    }

    /** "It has a GOAL ... (down at first). Both begin at REST, 0 ticks old." */
    private static void restAtFirst() {
        LandingGears x = Ways.plain();
        Ways.stage("at first", x, 0, 0);
        about("the goal at first", x, Ways.GOAL, 1);
        about("not AGAIN at first", x, Ways.AGAIN, 0);
        about("no orders at first", x, Ways.ORDERS, 0);
        x.run(1);
        Ways.stage("one tick", x, 0, 1);
        x.handle(0);
        about("the goal before it is seen", x, Ways.GOAL, 1);
        x.run(1);
        about("the goal when it is seen", x, Ways.GOAL, 0);
    }

    /** "A module gives the ORDERS of its stage": the table, tick by tick, on the way up and down. */
    private static void ordersOfEachStage() {
        for (int goal = 0; goal <= 1; goal++) {
            LandingGears x = Ways.goingUpTo(110);
            if (goal == 0) {
                x.handle(1);
                x.run(1);
                x.settle(1000);
                x.handle(0);
            } else {
                x.handle(1);
            }
            int met = 0;
            for (int i = 0; i < 110; i++) {
                x.run(1);
                int stage = x.about(0, Ways.STAGE);
                int want = stage == 3 ? goal == 1 ? 11 : 19 : STAGE_ORDERS[stage];
                met |= 1 << stage;
                Due.is("orders of stage " + stage, x.about(0, Ways.ORDERS), want);
                Due.is("ordered in stage " + stage, x.plant(ORDERED), want);
            }
            Due.is("all stages were met", met, 255);
        }
    }

    /** "WAKE, two ticks old: OPENING." */
    private static void wakeIsTwoTicksOld() {
        LandingGears x = Ways.goingUpTo(1);
        Ways.stage("come to", x, 1, 0);
        x.run(1);
        Ways.stage("one tick is not enough", x, 1, 1);
        x.run(1);
        Ways.stage("two are", x, 2, 0);
    }

    /** "OPENING, all doors seen OPEN: HELD.": two of them are not enough. */
    private static void openingUntilAllDoorsAreOpen() {
        for (int k = 0; k < 3; k++) {
            LandingGears x = Ways.goingUpTo(40);
            Ways.blind(x, 6 + k, 1);
            x.run(1);
            Ways.stage("all but door " + k, x, 2, 38);
            x.run(9);
            Ways.stage("all but door " + k, x, 2, 47);
            Ways.blind(x, 6 + k, 0);
            x.run(1);
            Ways.stage("all doors", x, 4, 0);
        }
        for (int k = 0; k < 3; k++) {
            LandingGears x = Ways.goingUpTo(39);
            for (int other = 0; other < 3; other++) {
                x.cylinder(other, other == k ? 0 : 1);
            }
            x.run(10);
            Ways.stage("door " + k + " alone", x, 2, 46);
        }
    }

    /** "MOVING, all gears seen where the goal wants them (DOWN, UP): HELD." */
    private static void movingUntilAllGearsAreThere() {
        for (int k = 0; k < 3; k++) {
            LandingGears up = Ways.goingUpTo(65);
            Ways.blind(up, 12 + k, 1);
            up.run(1);
            Ways.stage("all but gear " + k + " UP", up, 3, 24);
            Ways.blind(up, 12 + k, 0);
            up.run(1);
            Ways.stage("all gears UP", up, 4, 0);

            LandingGears down = Ways.movingDown();
            Ways.to(down, 162);
            Ways.blind(down, 9 + k, 1);
            down.run(1);
            Ways.stage("all but gear " + k + " DOWN", down, 3, 24);
            Ways.blind(down, 9 + k, 0);
            down.run(1);
            Ways.stage("all gears DOWN", down, 4, 0);
        }
    }

    /** "HELD, one tick old: MOVING, if some gear is not seen there ...; else GAP." */
    private static void heldIsOneTickOld() {
        LandingGears x = Ways.goingUpTo(41);
        Ways.stage("come to", x, 4, 0);
        x.run(1);
        Ways.stage("no gear is there", x, 3, 0);
        Ways.to(x, 66);
        Ways.stage("come to again", x, 4, 0);
        x.run(1);
        Ways.stage("all are there", x, 5, 0);

        LandingGears down = Ways.movingDown();
        Ways.to(down, 163);
        Ways.stage("come to", down, 4, 0);
        down.run(1);
        Ways.stage("all are there", down, 5, 0);
    }

    /** "MOVING, if some gear is not seen there": one is enough, and it is by the goal. */
    private static void heldWithOneGearNotThere() {
        for (int k = 0; k < 3; k++) {
            LandingGears up = Ways.goingUpTo(66);
            Ways.blind(up, 12 + k, 1);
            up.run(1);
            Ways.stage("gear " + k + " not UP", up, 3, 0);
            Due.is("RETRACT", up.plant(ORDERED), 19);

            LandingGears down = Ways.movingDown();
            Ways.to(down, 163);
            Ways.blind(down, 9 + k, 1);
            down.run(1);
            Ways.stage("gear " + k + " not DOWN", down, 3, 0);
            Due.is("EXTEND", down.plant(ORDERED), 11);
        }
    }

    /** "and, if the goal is up, no gear is seen borne": one that is borne is enough. */
    private static void heldWithOneGearBorne() {
        for (int bits = 0; bits <= 7; bits++) {
            LandingGears x = Ways.goingUpTo(41);
            x.ground(bits);
            x.run(1);
            Ways.stage("borne " + bits, x, bits == 0 ? 3 : 5, 0);
        }
        for (int k = 0; k < 3; k++) {
            LandingGears seen = Ways.goingUpTo(41);
            Ways.blind(seen, 15 + k, 2);
            seen.run(1);
            Ways.stage("seen borne " + k, seen, 5, 0);
            LandingGears notSeen = Ways.goingUpTo(40);
            notSeen.ground(1 << k);
            Ways.blind(notSeen, 15 + k, 1);
            notSeen.run(2);
            Ways.stage("borne, not seen borne " + k, notSeen, 3, 0);
        }
    }

    /** "if the goal is up": with the goal down a gear that is borne is no hindrance. */
    private static void borneDoesNotMatterDown() {
        LandingGears x = Ways.goingUpTo(110);
        x.ground(7);
        x.handle(1);
        Ways.to(x, 138);
        Ways.stage("HELD", x, 4, 0);
        x.run(1);
        Ways.stage("MOVING though all are seen borne", x, 3, 0);
    }

    /** "GAP, one tick old: OPENING, if it is AGAIN (which is over then), else CLOSING." */
    private static void gapIsOneTickOld() {
        LandingGears x = Ways.goingUpTo(67);
        Ways.stage("come to", x, 5, 0);
        x.run(1);
        Ways.stage("not AGAIN", x, 6, 0);
        x.handle(1);
        x.run(1);
        Ways.stage("back to GAP", x, 5, 0);
        about("AGAIN", x, Ways.AGAIN, 1);
        x.run(1);
        Ways.stage("AGAIN", x, 2, 0);
        about("over then", x, Ways.AGAIN, 0);
        for (int i = 0; i < 60 && x.about(0, Ways.STAGE) != 5; i++) {
            x.run(1);
        }
        Ways.stage("GAP once more", x, 5, 0);
        x.run(1);
        Ways.stage("not AGAIN any more", x, 6, 0);
    }

    /** "CLOSING, all doors seen SHUT: CALMING.": two of them are not enough. */
    private static void closingUntilAllDoorsAreShut() {
        for (int k = 0; k < 3; k++) {
            LandingGears x = Ways.goingUpTo(91);
            Ways.blind(x, 3 + k, 1);
            x.run(1);
            Ways.stage("all but door " + k, x, 6, 24);
            x.run(9);
            Ways.stage("all but door " + k, x, 6, 33);
            Ways.blind(x, 3 + k, 0);
            x.run(1);
            Ways.stage("all doors", x, 7, 0);
        }
    }

    /** "CALMING, ten ticks old: REST." */
    private static void calmingIsTenTicksOld() {
        LandingGears x = Ways.goingUpTo(92);
        Ways.stage("come to", x, 7, 0);
        x.run(9);
        Ways.stage("nine are not enough", x, 7, 9);
        x.run(1);
        Ways.stage("ten are", x, 0, 0);
    }

    /** "A stage is 0 ticks old in the tick in which it is come to, one tick older in each further one" */
    private static void agesFromZero() {
        int[] comeTo = {1, 3, 41, 42, 66, 67, 68, 92, 102};
        LandingGears x = Ways.goingUp();
        for (int i = 0; i < comeTo.length; i++) {
            int next = i + 1 < comeTo.length ? comeTo[i + 1] : 130;
            Ways.to(x, comeTo[i]);
            about("come to", x, Ways.AGE, 0);
            if (next > comeTo[i] + 1) {
                x.run(1);
                about("one tick older", x, Ways.AGE, 1);
                Ways.to(x, next - 1);
                about("the last tick", x, Ways.AGE, next - 1 - comeTo[i]);
            }
        }
    }

    /** "1 how old that is (99 at most)" */
    private static void ageToldUpTo99() {
        LandingGears x = Ways.plain();
        int[][] ages = {{98, 98}, {99, 99}, {100, 99}, {101, 99}, {1000, 99}};
        for (int[] row : ages) {
            Ways.to(x, row[0]);
            Ways.stage("tick " + row[0], x, 0, row[1]);
        }
        x.handle(0);
        x.run(1);
        Ways.stage("from 0 again", x, 1, 0);
    }

    /** "if the handle seen is not the goal, it becomes the goal: ..." and "ages above those told count likewise" */
    private static void turnInEachStage() {
        int[][] turns = {
            // the tick before the turn; behind the turn stage, age, AGAIN; and the same a tick later
            {1, 1, 1, 0, 2, 0, 0}, {2, 1, 2, 0, 2, 0, 0}, {3, 2, 1, 0, 2, 2, 0}, {40, 2, 38, 0, 4, 0, 0},
            {41, 4, 1, 0, 5, 0, 0}, {42, 4, 0, 0, 5, 0, 0}, {55, 4, 0, 0, 3, 0, 0}, {65, 4, 0, 0, 3, 0, 0},
            {66, 4, 1, 0, 3, 0, 0}, {67, 5, 1, 1, 2, 0, 0}, {68, 5, 0, 1, 2, 0, 0}, {91, 5, 0, 1, 2, 0, 0},
            {92, 5, 0, 1, 2, 0, 0}, {101, 5, 0, 1, 2, 0, 0}, {102, 1, 0, 0, 1, 1, 0}, {150, 1, 0, 0, 1, 1, 0},
        };
        for (int[] row : turns) {
            LandingGears x = Ways.goingUpTo(row[0]);
            about("the goal before", x, Ways.GOAL, 0);
            x.handle(1);
            for (int i = 1; i <= 4; i += 3) {
                x.run(1);
                String at = "turn behind " + row[0] + ", tick " + x.plant(15);
                Ways.stage(at, x, row[i], row[i + 1]);
                about(at, x, Ways.AGAIN, row[i + 2]);
                about(at, x, Ways.GOAL, 1);
            }
            x.settle(1000);
            Due.is("down in the end", x.plant(3) + x.plant(4) + x.plant(5), 45);
            Due.is("safe", x.safe(), true);
            Ways.cause("gone through", x, 0);
        }
    }

    /** "Else": in the tick of the turn nothing goes on by age or by what is seen. */
    private static void turnBeforeAnyOther() {
        LandingGears calm = Ways.goingUpTo(101);
        calm.handle(1);
        calm.run(1);
        Ways.stage("ten ticks old, and a turn", calm, 5, 0);
        LandingGears shut = Ways.goingUpTo(91);
        shut.handle(1);
        shut.run(1);
        Due.is("SHUT", shut.tells(3, 0), 1);
        Ways.stage("SHUT, and a turn", shut, 5, 0);
        LandingGears open = Ways.goingUpTo(40);
        open.handle(1);
        open.run(1);
        Due.is("OPEN", open.tells(6, 0), 1);
        Ways.stage("OPEN, and a turn", open, 2, 38);
    }

    /** "in GAP, and those two, it is AGAIN from then on": turned twice it is AGAIN still. */
    private static void againBothWays() {
        for (int tick : new int[] {67, 70, 95}) {
            LandingGears x = Ways.goingUpTo(tick);
            x.handle(1);
            x.run(1);
            x.handle(0);
            x.run(1);
            Ways.stage("turned twice", x, 5, tick == 67 ? 2 : 1);
            about("AGAIN", x, Ways.AGAIN, 1);
            about("the goal", x, Ways.GOAL, 0);
            x.handle(1);
            x.run(1);
            Ways.stage("turned three times", x, 5, tick == 67 ? 3 : 2);
            about("AGAIN", x, Ways.AGAIN, 1);
            x.run(1);
            Ways.stage("OPENING", x, 2, 0);
            about("over then", x, Ways.AGAIN, 0);
        }
        for (int tick : new int[] {1, 20, 41, 50, 66}) {
            LandingGears x = Ways.goingUpTo(tick);
            x.handle(1);
            x.run(1);
            about("not AGAIN by other stages", x, Ways.AGAIN, 0);
        }
    }

    /** What is moved there and back between two ticks is no turn. */
    private static void turnsThatNoModuleSees() {
        for (int tick : new int[] {0, 1, 40, 41, 50, 67, 80, 95, 150}) {
            LandingGears x = Ways.goingUpTo(tick);
            x.handle(1);
            x.handle(0);
            LandingGears y = Ways.goingUpTo(tick);
            x.run(3);
            y.run(3);
            for (int what = 0; what < 7; what++) {
                about("there and back", x, what, y.about(0, what));
            }
        }
    }

    /** "It has a GOAL, the handle that was seen" */
    private static void goalIsTheHandleSeen() {
        LandingGears x = Ways.plain();
        Ways.blind(x, 0, 1);
        x.run(1);
        about("the goal is what is seen", x, Ways.GOAL, 0);
        Ways.stage("WAKE by what is seen", x, 1, 0);
        Due.is("the handle is down", x.plant(13), 1);

        LandingGears y = Ways.plain();
        Ways.blind(y, 0, 2);
        y.handle(0);
        y.run(5);
        about("the goal is what is seen", y, Ways.GOAL, 1);
        Ways.stage("REST by what is seen", y, 0, 5);
        Due.is("the handle is up", y.plant(13), 0);
    }

    /** "by what it sees": doors that are not OPEN but seen so let the gears move. */
    private static void goesByWhatIsSeen() {
        LandingGears x = Ways.goingUpTo(20);
        for (int s = 6; s <= 8; s++) {
            Ways.blind(x, s, 2);
        }
        x.run(1);
        Ways.stage("seen OPEN", x, 4, 0);
        x.run(1);
        Ways.stage("seen OPEN", x, 3, 0);
        Due.is("they are not", x.plant(0) + x.plant(1) + x.plant(2), 0);
    }

    /** "With an ANOMALY its orders are none from that tick on, and its stage stays." */
    private static void anomalyInEachStage() {
        int[][] ticks = {{1, 1}, {2, 1}, {20, 2}, {40, 2}, {41, 4}, {50, 3}, {65, 3}, {66, 4}, {67, 5}, {68, 6},
            {91, 6}, {92, 7}, {101, 7}, {102, 0}, {150, 0}};
        for (int[] row : ticks) {
            LandingGears x = Ways.goingUp();
            x.channel(17, 0, 3);
            Ways.to(x, row[0]);
            about("before", x, Ways.STAGE, row[1]);
            x.channel(17, 1, 2);
            LandingGears y = Ways.goingUpTo(row[0]);
            x.run(1);
            y.run(1);
            String at = "anomaly behind " + row[0];
            // The tick of the ANOMALY has its stage first.
            Ways.stage(at, x, y.about(0, Ways.STAGE), y.about(0, Ways.AGE));
            Ways.cause(at, x, 1);
            about(at + ", orders", x, Ways.ORDERS, 0);
            Due.is(at + ", ordered", x.plant(ORDERED), 0);
            int stage = x.about(0, Ways.STAGE);
            x.run(300);
            Ways.stage(at + ", for good", x, stage, 99);
            about(at + ", orders", x, Ways.ORDERS, 0);
            Due.is(at + ", pressures", x.plant(6) + x.plant(7) + x.plant(8) + x.plant(9) + x.plant(10), 0);
            x.handle(1);
            x.run(2);
            about(at + ", a turn", x, Ways.STAGE, stage);
            about(at + ", a turn's orders", x, Ways.ORDERS, 0);
        }
    }

    /** An ANOMALY holds orders and stage, nothing else: the goal, AGAIN and the age go on. */
    private static void againWithAnAnomaly() {
        LandingGears x = Ways.goingUp();
        x.channel(17, 0, 3);
        Ways.to(x, 70);
        x.channel(17, 1, 2);
        x.run(1);
        Ways.stage("CLOSING", x, 6, 3);
        x.handle(1);
        x.run(1);
        Ways.stage("CLOSING stays, and gets older", x, 6, 4);
        about("the goal", x, Ways.GOAL, 1);
        about("AGAIN", x, Ways.AGAIN, 1);
    }

    /** "A module that is DEAD sees nothing" */
    private static void deadSeesNothing() {
        for (int m = 0; m < 2; m++) {
            LandingGears x = Ways.plain();
            x.module(m, 1);
            x.handle(0);
            x.ground(0);
            x.channel(5, 0, 3);
            x.run(4);
            Due.is("the handle", x.sees(m, 0, 0), 1);
            Due.is("the other one sees it", x.sees(1 - m, 0, 0), 0);
            Due.is("its goal", x.about(m, Ways.GOAL), 1);
            Due.is("borne", x.sees(m, 15, 0), 1);
            Due.is("the other one sees it", x.sees(1 - m, 15, 0), 0);
            Due.is("the channel", x.sees(m, 5, 1), 7);
            Due.is("it is OUT for the other one", x.sees(1 - m, 5, 1), 6);
            x.channel(5, 0, 0);
            x.module(m, 0);
            Due.is("nothing before a tick", x.sees(m, 0, 0), 1);
            x.run(1);
            Due.is("the handle, seen now", x.sees(m, 0, 0), 0);
            Due.is("the channel was never OUT", x.sees(m, 5, 1), 7);
            Due.is("WAKE by what is seen now", x.about(m, Ways.STAGE), 1);
        }
    }

    /** "does nothing": no stage, no age, no row, in any stage. */
    private static void deadDoesNothing() {
        for (int tick : new int[] {0, 1, 2, 20, 40, 41, 50, 65, 66, 67, 68, 91, 92, 101, 110}) {
            LandingGears x = Ways.goingUpTo(tick);
            int stage = x.about(0, Ways.STAGE);
            int age = x.about(0, Ways.AGE);
            int goal = x.about(0, Ways.GOAL);
            int rows = x.logged();
            x.module(0, 1);
            x.module(1, 1);
            x.run(40);
            Ways.stage("DEAD behind " + tick, x, stage, age);
            about("DEAD behind " + tick, x, Ways.GOAL, goal);
            about("DEAD behind " + tick, x, Ways.AGAIN, 0);
            Due.is("no rows", x.logged(), rows);
            Due.is("ticks go on", x.plant(15), tick + 40);
        }
    }

    /** "gives no orders": from the call on, and the tick that follows feels none. */
    private static void deadGivesNoOrders() {
        LandingGears x = Ways.goingUpTo(20);
        int open = x.plant(7);
        Due.is("OPEN ordered", x.plant(ORDERED), 3);
        x.module(0, 1);
        Due.is("orders of the other", x.plant(ORDERED), 3);
        Due.is("none of the DEAD one", x.about(0, Ways.ORDERS), 0);
        x.module(1, 1);
        Due.is("none of both", x.plant(ORDERED), 0);
        x.run(1);
        Due.is("GENERAL not fed", x.plant(6), 350);
        Due.is("OPEN not fed", x.plant(7), open - 10);
        x.module(1, 0);
        Due.is("its orders again", x.plant(ORDERED), 3);
        x.run(1);
        Due.is("GENERAL fed by the other alone", x.plant(6), 360);
    }

    /** "and lights" */
    private static void deadGivesNoLights() {
        LandingGears x = Ways.plain();
        x.module(0, 1);
        Due.is("GREEN of the other", x.run(1), 1);
        x.module(1, 1);
        Due.is("as behind the latest tick", x.lights(), 1);
        Due.is("none of both", x.run(1), 0);
        x.module(0, 0);
        Due.is("as behind the latest tick", x.lights(), 0);
        Due.is("GREEN again", x.run(1), 1);
    }

    /** "and is as it was when it is not dead any more" */
    private static void deadIsAsItWas() {
        for (int tick : new int[] {1, 2, 30, 50, 67, 80, 101, 120}) {
            LandingGears x = Ways.goingUpTo(tick);
            LandingGears y = Ways.goingUpTo(tick);
            x.module(0, 1);
            x.module(0, 0);
            x.run(5);
            y.run(5);
            Ways.same("DEAD between two ticks, behind " + tick, x, y);
        }
        LandingGears x = Ways.goingUpTo(95);
        x.module(0, 1);
        x.run(5);
        x.module(0, 0);
        Due.is("its stage", x.about(0, Ways.STAGE), 7);
        Due.is("its age", x.about(0, Ways.AGE), 3);
        Due.is("its orders", x.about(0, Ways.ORDERS), 1);
        x.run(6);
        Due.is("CALMING, nine ticks old", x.about(0, Ways.STAGE), 7);
        x.run(1);
        Due.is("REST by ten ticks of its own", x.about(0, Ways.STAGE), 0);
    }

    /** A module that is DEAD in the first ticks begins behind them, at REST and 0 ticks old. */
    private static void deadBeforeTheFirstTick() {
        LandingGears x = Ways.plain();
        x.module(1, 1);
        x.run(10);
        Due.is("age of the DEAD one", x.about(1, Ways.AGE), 0);
        Due.is("age of the other", x.about(0, Ways.AGE), 10);
        x.module(1, 0);
        x.run(1);
        Due.is("its first tick", x.about(1, Ways.AGE), 1);
    }

    /** An ANOMALY is "for good", for one that was DEAD too. */
    private static void deadWithAnAnomaly() {
        LandingGears x = Ways.plain();
        x.channel(17, 0, 1);
        x.run(1);
        x.channel(17, 1, 1);
        Due.is("RED", x.run(1), 5);
        x.module(0, 1);
        x.module(1, 1);
        about("DEAD with it", x, Ways.CAUSE, 1);
        Due.is("no RED of DEAD ones", x.run(1), 0);
        x.module(1, 0);
        Due.is("RED again", x.run(1), 5);
        about("for good", x, Ways.CAUSE, 1);
    }

    /** "A valve is ordered, if one of both modules orders it." */
    private static void valveOrderedByOneOfBoth() {
        LandingGears x = Ways.goingUp();
        x.module(1, 1);
        Ways.to(x, 20);
        Due.is("by module 0 alone", x.plant(ORDERED), 3);
        LandingGears y = Ways.goingUp();
        y.module(0, 1);
        Ways.to(y, 20);
        Due.is("by module 1 alone", y.plant(ORDERED), 3);
        Due.is("fed", x.plant(7) + y.plant(7), 216);

        LandingGears both = Ways.goingUpTo(1);
        both.module(1, 1);
        Ways.to(both, 72);
        both.module(1, 0);
        Due.is("module 0 closes", both.about(0, Ways.ORDERS), 5);
        Due.is("module 1 wakes", both.about(1, Ways.ORDERS), 1);
        Due.is("both together", both.plant(ORDERED), 5);
        both.run(2);
        Due.is("module 1 opens", both.about(1, Ways.ORDERS), 3);
        Due.is("both together", both.plant(ORDERED), 7);
    }

    /** "1 GREEN: all gears are seen DOWN" */
    private static void greenByAllGears() {
        Due.is("all DOWN", Ways.plain().run(1), 1);
        for (int k = 0; k < 3; k++) {
            LandingGears x = Ways.plain();
            Ways.blind(x, 9 + k, 1);
            Due.is("gear " + k + " not seen DOWN", x.run(1), 2);
            LandingGears y = Ways.plain();
            Ways.blind(y, 9 + k, 1);
            Ways.blind(y, 12 + k, 2);
            Due.is("gear " + k + " seen UP", y.run(1), 0);
        }
    }

    /** "2 ORANGE: some gear is seen neither DOWN nor UP": one is enough; one that is seen both is none. */
    private static void orangeBySomeGear() {
        for (int k = 0; k < 3; k++) {
            LandingGears x = Ways.goingUpTo(66);
            Due.is("all UP", x.lights(), 0);
            Ways.blind(x, 12 + k, 1);
            Due.is("gear " + k + " not seen UP", x.run(1), 2);
            LandingGears y = Ways.plain();
            Ways.blind(y, 12 + k, 2);
            Due.is("gear " + k + " seen DOWN and UP", y.run(1), 1);
        }
        LandingGears first = Ways.goingUpTo(51);
        Due.is("DOWN to the last", first.lights(), 1);
        Due.is("one step", first.run(1), 2);
        Due.is("one step short", first.run(13), 2);
        Due.is("UP", first.run(1), 0);
    }

    /** "4 RED: an ANOMALY": of either module. */
    private static void redByOneModule() {
        for (int m = 0; m < 2; m++) {
            LandingGears x = Ways.plain();
            x.module(1 - m, 1);
            x.channel(17, 0, 1);
            Due.is("one channel OUT", x.run(1), 1);
            x.channel(17, 1, 1);
            Due.is("RED of module " + m, x.run(1), 5);
            x.channel(17, 0, 0);
            x.channel(17, 1, 0);
            x.module(1 - m, 0);
            Due.is("RED of one of both", x.run(1), 5);
            Due.is("the other has none", x.about(1 - m, Ways.CAUSE), 0);
            x.module(m, 1);
            Due.is("no RED of a DEAD one", x.run(1), 1);
        }
    }

    /** "4 RED": with all gears UP it is alone, and with one between it is beside ORANGE. */
    private static void redWithoutGreen() {
        int[][] lights = {{40, 1, 5}, {55, 2, 6}, {70, 0, 4}, {150, 0, 4}};
        for (int[] row : lights) {
            LandingGears x = Ways.goingUp();
            x.channel(17, 0, 2);
            Ways.to(x, row[0]);
            Due.is("before the ANOMALY", x.lights(), row[1]);
            x.channel(17, 1, 2);
            Due.is("with it", x.run(1), row[2]);
        }
    }

    /** "LIGHTS, each if one of both modules (not DEAD) has it": all three at once, from two modules. */
    private static void lightsOfOneOfBoth() {
        for (int m = 0; m < 2; m++) {
            LandingGears x = Ways.plain();
            x.module(1 - m, 1);
            x.channel(9, 0, 1);
            x.run(1);
            x.channel(9, 1, 1);
            Due.is("module " + m + " sees DOWN for good", x.run(1), 5);
            x.module(1 - m, 0);
            Due.is("the other one sees it neither DOWN nor UP", x.run(1), 7);
            x.module(m, 1);
            Due.is("the other one alone", x.run(1), 2);
        }
    }
}
