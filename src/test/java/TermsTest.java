/** What the section "Terms" says of votes, stages, the watch and faults, each by the tick in which it shows. */
public final class TermsTest {
    private static final int GOAL = 2;
    private static final int ORDERS = 3;
    private static final int CAUSE = 4;
    private static final int AGAIN = 5;

    public static void main(String[] args) {
        votesOfThree();
        votesOfTwo();
        outForGood();
        invalidForGood();
        modulesVoteForThemselves();
        turnInWake();
        turnInOpening();
        turnInMoving();
        turnInHeld();
        turnInGapClosingCalming();
        turnWhileAgain();
        borneGearsStayDown();
        borneWhileMoving();
        borneOnTheWayDown();
        cause1();
        cause2();
        cause2AfterTheTenth();
        cause3();
        cause3Never();
        cause4();
        cause5();
        cause5InTheFirstTicks();
        cause6();
        cause7();
        cause8();
        cause8OnTheWayDown();
        cause9();
        cause9OnTheWayDown();
        firstCauseOfSeveral();
        anomalyHoldsTheStage();
        anomalyOfOneModule();
        deadModuleStandsStill();
        deadTicksAreNotWatched();
        stuckSwitchStaysClosed();
        stuckValveOfAnomalyIsNotFed();
        opposedValves();
        Due.end();
    }

    /** Lengths of 15 and nothing borne: WAKE 1, OPENING 3, HELD 41, MOVING 42, HELD 66, GAP 67, CLOSING 68, CALMING 92, REST 102. */
    private static LandingGears goingUp() {
        LandingGears x = new LandingGears(15, 15, 15, 15);
        x.ground(0);
        x.handle(0);
        return x;
    }

    private static void to(LandingGears x, int tick) {
        int left = tick - x.plant(15);
        if (left > 0) {
            x.run(left);
        }
    }

    private static void stageAt(LandingGears x, int tick, int stage, int age) {
        to(x, tick);
        Due.is("stage at " + tick, x.about(0, 0), stage);
        Due.is("age at " + tick, x.about(0, 1), age);
    }

    private static void causeFrom(String what, LandingGears x, int tick, int cause) {
        to(x, tick - 1);
        for (int m = 0; m < 2; m++) {
            Due.is(what + ": none before tick " + tick, x.about(m, CAUSE), 0);
        }
        x.run(1);
        for (int m = 0; m < 2; m++) {
            Due.is(what + ": at tick " + tick, x.about(m, CAUSE), cause);
            Due.is(what + ": no orders", x.about(m, ORDERS), 0);
        }
        Due.is(what + ": RED", x.lights() & 4, 4);
        Due.is(what + ": its row", x.log(x.logged() - 1, 2), 10 + cause);
        Due.is(what + ": its tick", x.log(x.logged() - 1, 0), tick);
    }

    private static void noCauseUpTo(String what, LandingGears x, int tick) {
        to(x, tick);
        Due.is(what + ": none by tick " + tick, x.about(0, CAUSE) + x.about(1, CAUSE), 0);
    }

    private static void votesOfThree() {
        int[][] faultsSeenIn = {
            // faults of the channels, then what is seen and which are in, for a sensor that is true and one that is not
            {0, 0, 0, 1, 7, 0, 7}, {1, 0, 0, 1, 6, 0, 7}, {0, 1, 0, 1, 5, 0, 7}, {0, 0, 1, 1, 3, 0, 7},
            {2, 0, 0, 1, 7, 0, 6}, {0, 2, 0, 1, 7, 0, 5}, {0, 0, 2, 1, 7, 0, 3},
            {1, 1, 0, 0, 3, 0, 7}, {1, 0, 1, 0, 5, 0, 7}, {0, 1, 1, 0, 6, 0, 7}, {1, 1, 1, 0, 7, 0, 7},
            {2, 2, 0, 1, 7, 1, 3}, {2, 2, 2, 1, 7, 1, 7}, {3, 0, 0, 1, 6, 0, 6}, {3, 3, 0, 0, 3, 1, 3},
            {3, 3, 3, 0, 7, 1, 7}, {1, 2, 3, 0, 5, 1, 6},
        };
        for (int[] row : faultsSeenIn) {
            LandingGears x = new LandingGears(15, 15, 15, 15);
            for (int c = 0; c < 3; c++) {
                x.channel(9, c, row[c]);
                x.channel(12, c, row[c]);
            }
            x.run(1);
            String faults = "faults " + row[0] + row[1] + row[2] + " ";
            Due.is(faults + "true, seen", x.sees(0, 9, 0), row[3]);
            Due.is(faults + "true, in", x.sees(1, 9, 1), row[4]);
            Due.is(faults + "not true, seen", x.sees(1, 12, 0), row[5]);
            Due.is(faults + "not true, in", x.sees(0, 12, 1), row[6]);
        }
    }

    private static void votesOfTwo() {
        LandingGears x = new LandingGears(15, 15, 15, 15);
        x.channel(16, 0, 1);
        x.run(1);
        Due.is("two are left", x.sees(0, 16, 1), 6);
        x.ground(0);
        x.run(1);
        Due.is("both tell 0", x.sees(0, 16, 0), 0);
        x.ground(7);
        x.run(1);
        Due.is("both tell 1", x.sees(0, 16, 0), 1);
        x.channel(16, 1, 3);
        x.channel(16, 2, 3);
        x.run(1);
        Due.is("both are wrong", x.sees(0, 16, 0), 0);
        Due.is("both are in", x.sees(0, 16, 1), 6);
        Due.is("no anomaly", x.about(0, CAUSE), 0);
    }

    private static void outForGood() {
        LandingGears x = new LandingGears(15, 15, 15, 15);
        x.channel(15, 2, 1);
        x.run(1);
        x.channel(15, 2, 0);
        x.run(5);
        Due.is("OUT though it tells what is true", x.sees(0, 15, 1), 3);
        x.channel(15, 2, 2);
        x.channel(15, 1, 1);
        x.run(1);
        Due.is("the third has no vote", x.sees(0, 15, 1), 0);
    }

    private static void invalidForGood() {
        LandingGears x = new LandingGears(15, 15, 15, 15);
        x.channel(17, 0, 1);
        x.run(1);
        x.ground(3);
        x.run(1);
        Due.is("seen not borne", x.sees(0, 17, 0), 0);
        x.channel(17, 1, 2);
        x.run(1);
        Due.is("INVALID", x.sees(0, 17, 1), 0);
        Due.is("what was seen last stays", x.sees(0, 17, 0), 0);
        x.ground(7);
        x.channel(17, 0, 0);
        x.channel(17, 1, 0);
        x.run(3);
        Due.is("INVALID for good", x.sees(0, 17, 1), 0);
        Due.is("seen stays for good", x.sees(0, 17, 0), 0);
        Due.is("the channels tell on", x.tells(17, 0) + x.tells(17, 1) + x.tells(17, 2), 3);
    }

    private static void modulesVoteForThemselves() {
        LandingGears x = new LandingGears(15, 15, 15, 15);
        x.module(1, 1);
        x.channel(8, 0, 2);
        x.run(1);
        x.channel(8, 0, 0);
        x.module(1, 0);
        x.run(1);
        Due.is("OUT for module 0", x.sees(0, 8, 1), 6);
        Due.is("in for module 1", x.sees(1, 8, 1), 7);
    }

    private static void turnInWake() {
        LandingGears x = goingUp();
        stageAt(x, 1, 1, 0);
        x.handle(1);
        stageAt(x, 2, 1, 1);
        Due.is("goal", x.about(0, GOAL), 1);
        Due.is("not AGAIN", x.about(0, AGAIN), 0);
        stageAt(x, 3, 2, 0);
        stageAt(x, 41, 4, 0);
        stageAt(x, 42, 5, 0);
        stageAt(x, 43, 6, 0);

        LandingGears late = goingUp();
        to(late, 2);
        late.handle(1);
        stageAt(late, 3, 1, 2);
        stageAt(late, 4, 2, 0);
    }

    private static void turnInOpening() {
        LandingGears x = goingUp();
        to(x, 40);
        x.handle(1);
        stageAt(x, 41, 2, 38);
        stageAt(x, 42, 4, 0);
        stageAt(x, 43, 5, 0);
        Due.is("goal", x.about(0, GOAL), 1);
        Due.is("not AGAIN", x.about(0, AGAIN), 0);
    }

    private static void turnInMoving() {
        LandingGears x = goingUp();
        to(x, 55);
        x.handle(1);
        stageAt(x, 56, 4, 0);
        Due.is("orders in HELD", x.about(0, ORDERS), 3);
        stageAt(x, 57, 3, 0);
        Due.is("orders the other way", x.about(0, ORDERS), 11);
        Due.is("not AGAIN", x.about(0, AGAIN), 0);

        LandingGears there = goingUp();
        to(there, 65);
        there.handle(1);
        stageAt(there, 66, 4, 0);
        stageAt(there, 67, 3, 0);
        Due.is("down from UP", there.about(0, ORDERS), 11);
    }

    private static void turnInHeld() {
        LandingGears x = goingUp();
        to(x, 41);
        x.handle(1);
        stageAt(x, 42, 4, 1);
        stageAt(x, 43, 5, 0);
        stageAt(x, 44, 6, 0);
        Due.is("not AGAIN", x.about(0, AGAIN), 0);
    }

    private static void turnInGapClosingCalming() {
        // The tick before the turn is seen, the stage then, and the ticks from the turn to OPENING.
        int[][] turns = {{67, 5, 2}, {68, 6, 1}, {90, 6, 1}, {91, 6, 1}, {92, 7, 1}, {101, 7, 1}};
        for (int[] turn : turns) {
            LandingGears x = goingUp();
            to(x, turn[0]);
            Due.is("stage before the turn", x.about(0, 0), turn[1]);
            x.handle(1);
            stageAt(x, turn[0] + 1, 5, turn[1] == 5 ? 1 : 0);
            Due.is("AGAIN", x.about(0, AGAIN), 1);
            Due.is("goal", x.about(0, GOAL), 1);
            Due.is("orders in GAP", x.about(0, ORDERS), 1);
            stageAt(x, turn[0] + 2, 2, 0);
            Due.is("AGAIN is over", x.about(0, AGAIN), 0);
            x.settle(1000);
            Due.is("down", x.plant(3) + x.plant(4) + x.plant(5), 45);
            Due.is("safe", x.safe(), true);
        }
        LandingGears rest = goingUp();
        to(rest, 102);
        rest.handle(1);
        stageAt(rest, 103, 1, 0);
        Due.is("not AGAIN from REST", rest.about(0, AGAIN), 0);
    }

    private static void turnWhileAgain() {
        LandingGears x = goingUp();
        to(x, 70);
        x.handle(1);
        stageAt(x, 71, 5, 0);
        x.handle(0);
        stageAt(x, 72, 5, 1);
        Due.is("AGAIN still", x.about(0, AGAIN), 1);
        stageAt(x, 73, 2, 0);
        Due.is("goal", x.about(0, GOAL), 0);
    }

    private static void borneGearsStayDown() {
        for (int k = 0; k < 3; k++) {
            LandingGears x = goingUp();
            x.ground(1 << k);
            stageAt(x, 41, 4, 0);
            stageAt(x, 42, 5, 0);
            stageAt(x, 43, 6, 0);
            x.settle(1000);
            Due.is("all gears DOWN", x.plant(3) + x.plant(4) + x.plant(5), 45);
        }
    }

    private static void borneWhileMoving() {
        LandingGears x = goingUp();
        to(x, 50);
        x.ground(7);
        stageAt(x, 66, 4, 0);
        Due.is("MOVING does not look at the ground", x.plant(3), 0);
    }

    private static void borneOnTheWayDown() {
        LandingGears x = goingUp();
        to(x, 110);
        x.ground(7);
        x.handle(1);
        x.run(1);
        x.settle(1000);
        Due.is("down though borne", x.plant(3) + x.plant(4) + x.plant(5), 45);
    }

    private static void cause1() {
        for (int s = 0; s < 18; s++) {
            LandingGears x = new LandingGears(15, 15, 15, 15);
            x.channel(s, 1, 3);
            noCauseUpTo("one channel of " + s, x, 5);
            x.channel(s, 2, 3);
            causeFrom("two channels of " + s, x, 6, 1);
        }
    }

    private static void cause2() {
        LandingGears x = goingUp();
        x.stick(1);
        to(x, 4);
        x.stick(0);
        causeFrom("CLOSED one tick late", x, 11, 2);

        LandingGears y = goingUp();
        y.stick(1);
        to(y, 3);
        y.stick(0);
        noCauseUpTo("CLOSED in the tenth", y, 60);
    }

    private static void cause2AfterTheTenth() {
        LandingGears x = goingUp();
        to(x, 11);
        x.channel(1, 0, 1);
        x.channel(1, 1, 1);
        to(x, 12);
        Due.is("not seen CLOSED", x.sees(0, 1, 0), 0);
        noCauseUpTo("open after the tenth", x, 102);
        x.handle(1);
        causeFrom("the tenth of another change", x, 113, 2);
    }

    private static void cause3() {
        LandingGears x = goingUp();
        to(x, 150);
        x.stick(1);
        causeFrom("a switch that stays CLOSED", x, 217, 3);

        LandingGears y = goingUp();
        to(y, 150);
        y.stick(1);
        to(y, 210);
        y.handle(1);
        y.stick(0);
        noCauseUpTo("changed anew", y, 426);
        Due.is("open in time", y.sees(0, 1, 0), 0);
    }

    private static void cause3Never() {
        LandingGears x = new LandingGears(15, 15, 15, 15);
        x.channel(1, 0, 2);
        x.channel(1, 1, 2);
        causeFrom("never changed, and CLOSED", x, 1, 3);
    }

    private static void cause4() {
        LandingGears x = goingUp();
        x.valve(0, 1);
        causeFrom("GENERAL never fed", x, 30, 4);

        LandingGears y = goingUp();
        y.valve(0, 1);
        to(y, 20);
        y.valve(0, 0);
        noCauseUpTo("GENERAL fed in time", y, 60);

        LandingGears z = goingUp();
        z.valve(0, 1);
        to(z, 21);
        z.valve(0, 0);
        causeFrom("GENERAL fed one tick late", z, 30, 4);
    }

    private static void cause5() {
        LandingGears x = goingUp();
        x.valve(0, 2);
        // GENERAL is at 360 seven ticks before its time, so REST is come to at 95.
        causeFrom("GENERAL fed on", x, 194, 5);

        LandingGears y = goingUp();
        y.valve(0, 2);
        to(y, 193);
        y.valve(0, 1);
        noCauseUpTo("GENERAL less in time", y, 210);
    }

    private static void cause5InTheFirstTicks() {
        LandingGears x = new LandingGears(15, 15, 15, 15);
        x.valve(0, 2);
        causeFrom("GENERAL fed from the first", x, 100, 5);
    }

    private static void cause6() {
        for (int k = 0; k < 3; k++) {
            LandingGears x = goingUp();
            x.cylinder(k, 1);
            causeFrom("door " + k + " stays shut", x, 72, 6);
            LandingGears y = goingUp();
            to(y, 39);
            y.cylinder(k, 1);
            to(y, 70);
            y.cylinder(k, 0);
            // Two steps are wanting: ticks 71 and 72 are enough.
            noCauseUpTo("door " + k + " in time", y, 75);
            LandingGears z = goingUp();
            to(z, 39);
            z.cylinder(k, 1);
            to(z, 71);
            z.cylinder(k, 0);
            causeFrom("door " + k + " one tick late", z, 72, 6);
        }
    }

    private static void cause7() {
        for (int k = 0; k < 3; k++) {
            LandingGears x = goingUp();
            to(x, 80);
            x.cylinder(k, 1);
            causeFrom("door " + k + " stays open", x, 137, 7);
        }
        LandingGears y = goingUp();
        y.valve(2, 1);
        causeFrom("CLOSE never fed", y, 137, 7);
    }

    private static void cause8() {
        for (int k = 3; k < 6; k++) {
            LandingGears x = goingUp();
            x.cylinder(k, 1);
            causeFrom("gear " + k + " stays DOWN", x, 111, 8);
            LandingGears y = goingUp();
            y.cylinder(k, 1);
            to(y, 110);
            y.cylinder(k, 0);
            noCauseUpTo("gear " + k + " leaves in time", y, 130);
        }
    }

    /** From REST at tick 110 the handle goes down: WAKE 111, OPENING 113. */
    private static int movingDown(LandingGears x) {
        to(x, 110);
        x.handle(1);
        int tick = 110;
        while (tick < 300 && x.about(0, 0) != 3) {
            x.run(1);
            tick++;
        }
        Due.is("EXTEND", x.about(0, ORDERS), 11);
        return tick;
    }

    private static void cause8OnTheWayDown() {
        for (int k = 3; k < 6; k++) {
            LandingGears x = goingUp();
            int moving = movingDown(x);
            x.cylinder(k, 1);
            causeFrom("gear " + k + " stays UP", x, moving + 69, 8);
        }
    }

    private static void cause9() {
        for (int k = 3; k < 6; k++) {
            LandingGears x = goingUp();
            to(x, 60);
            x.cylinder(k, 1);
            causeFrom("gear " + k + " stays between", x, 141, 9);
            LandingGears y = goingUp();
            to(y, 65);
            y.cylinder(k, 1);
            to(y, 140);
            y.cylinder(k, 0);
            noCauseUpTo("gear " + k + " UP in time", y, 160);
        }
    }

    private static void cause9OnTheWayDown() {
        for (int k = 3; k < 6; k++) {
            LandingGears x = goingUp();
            int moving = movingDown(x);
            to(x, moving + 15);
            x.cylinder(k, 1);
            causeFrom("gear " + k + " stays between", x, moving + 99, 9);
        }
    }

    private static void firstCauseOfSeveral() {
        LandingGears x = goingUp();
        x.cylinder(0, 1);
        to(x, 71);
        x.channel(17, 0, 3);
        causeFrom("6 with a channel OUT", x, 72, 6);

        LandingGears y = goingUp();
        y.cylinder(0, 1);
        to(y, 70);
        y.channel(17, 0, 1);
        y.channel(17, 1, 2);
        to(y, 71);
        y.channel(17, 0, 2);
        y.channel(17, 2, 1);
        causeFrom("1 before 6", y, 72, 1);

        LandingGears never = new LandingGears(15, 15, 15, 15);
        never.valve(0, 2);
        to(never, 99);
        never.channel(1, 0, 2);
        never.channel(1, 1, 2);
        causeFrom("3 before 5", never, 100, 3);
    }

    private static void anomalyHoldsTheStage() {
        LandingGears x = goingUp();
        to(x, 70);
        x.channel(17, 0, 3);
        x.run(1);
        x.channel(17, 1, 3);
        x.run(1);
        Due.is("an anomaly while CLOSING", x.about(0, CAUSE) * 10 + x.about(0, 0), 16);
        Due.is("age", x.about(0, 1), 4);
        Due.is("no orders", x.plant(17), 0);
        int rows = x.logged();
        x.run(300);
        Due.is("the stage stays", x.about(0, 0), 6);
        Due.is("nothing is ordered", x.plant(17), 0);
        Due.is("no further rows", x.logged(), rows);
        Due.is("GENERAL has gone down", x.plant(6), 0);
        x.handle(1);
        x.run(1);
        Due.is("the handle is seen on", x.sees(0, 0, 0), 1);
        Due.is("the goal goes on", x.about(0, GOAL), 1);
        Due.is("the stage stays still", x.about(0, 0), 6);
        Due.is("the cause stays", x.about(0, CAUSE), 1);
        Due.is("lights go on", x.lights(), 4);
    }

    private static void anomalyOfOneModule() {
        LandingGears x = goingUp();
        x.channel(17, 0, 2);
        x.run(1);
        x.module(1, 1);
        x.channel(17, 1, 2);
        x.run(1);
        x.channel(17, 1, 0);
        x.module(1, 0);
        Due.is("module 0 has it", x.about(0, CAUSE), 1);
        x.run(1);
        Due.is("module 1 has none", x.about(1, CAUSE), 0);
        Due.is("module 1 orders", x.plant(17), x.about(1, ORDERS));
        x.settle(1000);
        Due.is("module 1 brings them up", x.plant(3) + x.plant(4) + x.plant(5), 0);
        Due.is("module 1 rests", x.about(1, 0), 0);
        Due.is("module 0 where it was", x.about(0, 0), 1);
        Due.is("RED of one", x.lights(), 4);
    }

    private static void deadModuleStandsStill() {
        LandingGears x = goingUp();
        to(x, 50);
        x.module(0, 1);
        Due.is("no orders of a DEAD one", x.about(0, ORDERS), 0);
        Due.is("orders of the other", x.plant(17), 19);
        to(x, 80);
        Due.is("its stage", x.about(0, 0), 3);
        Due.is("its age", x.about(0, 1), 8);
        Due.is("what it saw", x.sees(0, 10, 0), 1);
        Due.is("what the other one sees", x.sees(1, 10, 0), 0);
        int rows = x.logged();
        x.module(0, 0);
        Due.is("its orders again", x.about(0, ORDERS), 19);
        x.run(1);
        Due.is("it sees again", x.sees(0, 13, 0), 1);
        Due.is("it goes on", x.about(0, 0), 4);
        Due.is("its row", x.log(rows, 0) * 10 + x.log(rows, 1), 810);
    }

    private static void deadTicksAreNotWatched() {
        LandingGears x = goingUp();
        x.valve(0, 1);
        to(x, 10);
        x.module(0, 1);
        to(x, 15);
        x.module(0, 0);
        to(x, 30);
        Due.is("module 1 by its thirtieth", x.about(1, CAUSE), 4);
        to(x, 34);
        Due.is("module 0 before its thirtieth", x.about(0, CAUSE), 0);
        to(x, 35);
        Due.is("module 0 by its thirtieth", x.about(0, CAUSE), 4);
    }

    private static void stuckSwitchStaysClosed() {
        LandingGears x = goingUp();
        to(x, 209);
        Due.is("level going down", x.plant(11), 22);
        x.stick(1);
        x.run(5);
        Due.is("level stuck", x.plant(11), 22);
        x.stick(0);
        x.handle(1);
        x.run(1);
        Due.is("24 at most", x.plant(11), 24);
        Due.is("hold not less in that tick", x.plant(12), 200);
        x.run(1);
        Due.is("hold one less", x.plant(12), 199);
    }

    private static void stuckValveOfAnomalyIsNotFed() {
        LandingGears x = goingUp();
        x.valve(1, 2);
        x.valve(0, 1);
        to(x, 40);
        Due.is("OPEN not fed without GENERAL's 360", x.plant(7), 0);
        x.valve(0, 2);
        to(x, 50);
        Due.is("GENERAL fed without an order", x.plant(6) * 10 + x.plant(17), 3600);
        Due.is("OPEN not before", x.plant(7), 0);
        to(x, 60);
        Due.is("OPEN fed without an order", x.plant(7), 360);
        Due.is("doors move with its 360", x.plant(0), 1);
        to(x, 90);
        Due.is("360 at most", x.plant(7), 360);
        Due.is("not beyond the end", x.plant(0), 15);
    }

    private static void opposedValves() {
        LandingGears x = goingUp();
        x.valve(1, 2);
        x.valve(2, 2);
        x.valve(3, 2);
        x.valve(4, 2);
        to(x, 71);
        Due.is("both of the doors' valves", x.plant(7) + x.plant(8), 720);
        Due.is("doors stay", x.plant(0) + x.plant(1) + x.plant(2), 0);
        Due.is("gears stay", x.plant(3) + x.plant(4) + x.plant(5), 45);
        Due.is("no scrape", x.plant(16), 0);
        Due.is("safe: the valves were not ordered", x.safe(), true);
        x.valve(2, 1);
        x.run(1);
        Due.is("doors move when one is less", x.plant(1), 1);
    }
}
