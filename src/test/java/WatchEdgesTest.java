/** The edges of "THE WATCH": each cause in the first tick in which it holds, and not in the tick before. */
public final class WatchEdgesTest {
    public static void main(String[] args) {
        cause1InThatTick();
        cause2InTheTenthAlone();
        cause2ByEachChange();
        cause3From216On();
        cause3OrNever();
        cause4FromTheThirtieth();
        cause4InThisTickToo();
        cause4CountsAnew();
        cause5FromTheHundredth();
        cause5NotInTheFirst99();
        cause5InThisTickToo();
        cause5CountsAnew();
        cause6FromTheSeventieth();
        cause6InThisTickToo();
        cause6CountsAnew();
        cause7FromTheSeventieth();
        cause7WithAllOpen();
        cause7CountsAnew();
        cause8FromTheSeventieth();
        cause8OnlyWhereItCameFrom();
        cause8CountsAnew();
        cause9FromTheHundredth();
        cause9BothWays();
        cause9Borne();
        theFirstOfSeveral();
        forGood();
        theFirstStays();
        ordersUpToTheTickBefore();
        noneWithoutFaults();
        Due.end();
    }

    private static void due(String what, LandingGears x, int tick, int cause) {
        Ways.to(x, tick);
        Ways.cause(what + ", tick " + tick, x, cause);
        Due.is(what + ", RED", x.lights() & 4, cause == 0 ? 0 : 4);
    }

    /** In one tick alone two channels of the sensor tell what the FAULT makes them. */
    private static LandingGears blindIn(LandingGears x, int tick, int sensor, int fault) {
        Ways.to(x, tick - 1);
        Ways.blind(x, sensor, fault);
        Ways.to(x, tick);
        Ways.blind(x, sensor, 0);
        return x;
    }

    /** "1 a sensor is INVALID": any of them, in the tick in which it is. */
    private static void cause1InThatTick() {
        for (int s = 0; s < 18; s++) {
            LandingGears x = Ways.plain();
            x.channel(s, 2, 3);
            due("one OUT", x, 7, 0);
            x.channel(s, 0, 3);
            due("INVALID", x, 8, 1);
        }
    }

    /** "2 the handle seen changed 10 ticks ago, and the switch is not seen CLOSED" */
    private static void cause2InTheTenthAlone() {
        for (int tick = 9; tick <= 13; tick++) {
            LandingGears x = blindIn(Ways.goingUp(), tick, 1, 1);
            Due.is("not seen CLOSED", x.sees(0, 1, 0), 0);
            due("not CLOSED in " + tick, x, tick, tick == 11 ? 2 : 0);
            due("CLOSED behind " + tick, x, 30, tick == 11 ? 2 : 0);
        }
        LandingGears never = Ways.goingUp();
        never.stick(1);
        due("never CLOSED", never, 10, 0);
        due("never CLOSED", never, 11, 2);
    }

    private static void cause2ByEachChange() {
        LandingGears x = Ways.goingUpTo(150);
        x.handle(1);
        blindIn(x, 160, 1, 1);
        due("the ninth", x, 160, 0);
        blindIn(x, 161, 1, 1);
        due("the tenth of a move down", x, 161, 2);
        LandingGears y = Ways.goingUpTo(50);
        y.handle(1);
        blindIn(y, 61, 1, 1);
        due("the tenth of a turn", y, 61, 2);
    }

    /** "3 it changed 216 ticks ago or more ..., and the switch is seen CLOSED" */
    private static void cause3From216On() {
        int[][] ticks = {{210, 0}, {215, 0}, {216, 0}, {217, 3}, {218, 3}, {219, 3}, {500, 3}};
        for (int[] row : ticks) {
            LandingGears x = blindIn(Ways.goingUp(), row[0], 1, 2);
            Due.is("seen CLOSED", x.sees(1, 1, 0), 1);
            due("CLOSED " + (row[0] - 1) + " ticks behind the change", x, row[0], row[1]);
        }
        LandingGears stuck = Ways.goingUpTo(208);
        stuck.stick(1);
        due("215 ticks ago", stuck, 216, 0);
        due("216 ticks ago", stuck, 217, 3);
        LandingGears anew = Ways.goingUpTo(208);
        anew.handle(1);
        due("changed anew", anew, 408, 0);
        anew.stick(1);
        due("215 ticks ago", anew, 424, 0);
        due("216 ticks ago", anew, 425, 3);
    }

    /** "(or never)" */
    private static void cause3OrNever() {
        for (int tick : new int[] {1, 2, 100, 215, 216, 217, 300}) {
            LandingGears x = Ways.plain();
            Ways.to(x, tick - 1);
            Ways.cause("never, and not CLOSED", x, 0);
            Ways.blind(x, 1, 2);
            due("never, and CLOSED", x, tick, 3);
        }
        LandingGears turned = Ways.plain();
        turned.handle(0);
        Ways.blind(turned, 1, 2);
        due("changed in this tick", turned, 1, 0);
    }

    /** "4 GENERAL was ordered by it in this and the 29 ticks before, and its pressure is not seen" */
    private static void cause4FromTheThirtieth() {
        for (int tick = 28; tick <= 32; tick++) {
            LandingGears x = blindIn(Ways.goingUp(), tick, 2, 1);
            due("not seen in " + tick, x, tick, tick < 30 ? 0 : 4);
            due("seen behind " + tick, x, 34, tick < 30 ? 0 : 4);
        }
        LandingGears stuck = Ways.goingUp();
        stuck.valve(0, 1);
        due("the 29th", stuck, 29, 0);
        due("the 30th", stuck, 30, 4);
    }

    /** "in this": in the tick in which REST is come to it is ordered no more. */
    private static void cause4InThisTickToo() {
        due("the last tick of CALMING", blindIn(Ways.goingUp(), 101, 2, 1), 101, 4);
        due("the first tick of REST", blindIn(Ways.goingUp(), 102, 2, 1), 102, 0);
    }

    /** "in this and the 29 ticks before": one tick without the order, and the thirty begin anew. */
    private static void cause4CountsAnew() {
        LandingGears x = Ways.goingUpTo(102);
        x.handle(1);
        Ways.to(x, 103);
        Ways.stage("WAKE after one tick of REST", x, 1, 0);
        x.valve(0, 1);
        due("the 29th of the new order", x, 131, 0);
        due("the 30th of the new order", x, 132, 4);
    }

    /** "5 not ordered in this and the 99 before, and it is seen" */
    private static void cause5FromTheHundredth() {
        for (int tick = 199; tick <= 203; tick++) {
            LandingGears x = blindIn(Ways.goingUp(), tick, 2, 2);
            due("seen in " + tick, x, tick, tick < 201 ? 0 : 5);
            due("not seen behind " + tick, x, 206, tick < 201 ? 0 : 5);
        }
    }

    /** "(not in the first 99 ticks)" */
    private static void cause5NotInTheFirst99() {
        LandingGears x = Ways.plain();
        Ways.blind(x, 2, 2);
        due("the first tick", x, 1, 0);
        due("the last of the first 99", x, 99, 0);
        due("the hundredth", x, 100, 5);
        due("seen in the 99th alone", blindIn(Ways.plain(), 99, 2, 2), 105, 0);
        due("seen in the hundredth alone", blindIn(Ways.plain(), 100, 2, 2), 105, 5);
    }

    /** "in this": in the tick of WAKE it is ordered. */
    private static void cause5InThisTickToo() {
        LandingGears x = Ways.goingUpTo(200);
        x.handle(1);
        blindIn(x, 201, 2, 2);
        Ways.stage("WAKE", x, 1, 0);
        due("ordered in this tick", x, 201, 0);
    }

    /** "in this and the 99 before": an order in between, and the hundred begin anew. */
    private static void cause5CountsAnew() {
        LandingGears x = Ways.goingUpTo(200);
        x.handle(1);
        x.run(1);
        x.settle(1000);
        int rest = x.plant(15);
        x.valve(0, 2);
        due("the 99th of the new REST", x, rest + 98, 0);
        due("the 100th of the new REST", x, rest + 99, 5);
    }

    /** "6 OPEN ordered in this and the 69 before, and some door is not seen OPEN": each door. */
    private static void cause6FromTheSeventieth() {
        for (int k = 0; k < 3; k++) {
            for (int tick = 70; tick <= 74; tick++) {
                LandingGears x = blindIn(Ways.goingUp(15, 40), tick, 6 + k, 1);
                due("door " + k + " not seen OPEN in " + tick, x, tick, tick < 72 ? 0 : 6);
                due("seen OPEN behind " + tick, x, 76, tick < 72 ? 0 : 6);
            }
            LandingGears stuck = Ways.goingUp();
            stuck.cylinder(k, 1);
            due("the 69th", stuck, 71, 0);
            due("the 70th", stuck, 72, 6);
        }
    }

    /** "in this": in the tick in which GAP is come to it is ordered no more. */
    private static void cause6InThisTickToo() {
        LandingGears held = blindIn(Ways.goingUp(15, 40), 91, 7, 1);
        Ways.stage("the last tick of OPEN", held, 4, 0);
        due("the last tick of OPEN", held, 91, 6);
        LandingGears gap = blindIn(Ways.goingUp(15, 40), 92, 7, 1);
        Ways.stage("GAP", gap, 5, 0);
        due("GAP", gap, 92, 0);
    }

    /** A GAP in between, and the seventy begin anew. */
    private static void cause6CountsAnew() {
        LandingGears x = Ways.goingUpTo(67);
        x.handle(1);
        Ways.to(x, 69);
        Ways.stage("OPENING after two ticks of GAP", x, 2, 0);
        for (int tick = 72; tick <= 74; tick++) {
            due("OPEN in four ticks", blindIn(x, tick, 6, 1), tick, 0);
        }
        LandingGears late = Ways.goingUpTo(67);
        late.handle(1);
        Ways.to(late, 69);
        late.cylinder(3, 1);
        due("the 69th of the new order", blindIn(late, 137, 6, 1), 137, 0);
        due("the 70th of the new order", blindIn(late, 138, 6, 1), 138, 6);
    }

    /** "7 CLOSE likewise, and some is not seen SHUT": each door. */
    private static void cause7FromTheSeventieth() {
        for (int k = 0; k < 3; k++) {
            LandingGears x = Ways.goingUpTo(80);
            x.cylinder(k, 1);
            due("the 69th", x, 136, 0);
            due("the 70th", x, 137, 7);
            LandingGears seen = Ways.goingUpTo(80);
            Ways.blind(seen, 3 + k, 1);
            Ways.to(seen, 136);
            Ways.blind(seen, 3 + k, 0);
            due("seen SHUT in the 70th", seen, 137, 0);
            Ways.stage("CALMING", seen, 7, 0);
        }
    }

    /** "some is not seen SHUT": with all of them seen OPEN still it is the same. */
    private static void cause7WithAllOpen() {
        LandingGears x = Ways.goingUp();
        x.valve(2, 1);
        due("CLOSE never fed, the 69th", x, 136, 0);
        Due.is("OPEN", x.plant(0) + x.plant(1) + x.plant(2), 45);
        due("CLOSE never fed, the 70th", x, 137, 7);
    }

    private static void cause7CountsAnew() {
        LandingGears x = Ways.goingUpTo(80);
        x.cylinder(1, 1);
        Ways.to(x, 130);
        x.handle(1);
        Ways.to(x, 131);
        Ways.stage("GAP", x, 5, 0);
        x.cylinder(1, 0);
        for (int i = 0; i < 120 && x.about(0, Ways.STAGE) != 6; i++) {
            x.run(1);
        }
        Ways.stage("CLOSING anew", x, 6, 0);
        int closing = x.plant(15);
        x.cylinder(1, 1);
        due("the 69th of the new order", x, closing + 68, 0);
        due("the 70th of the new order", x, closing + 69, 7);
    }

    /** "8 EXTEND, RETRACT in this and the 69 before, and some gear is seen still where it came from (UP, DOWN)" */
    private static void cause8FromTheSeventieth() {
        for (int k = 0; k < 3; k++) {
            LandingGears up = Ways.goingUp();
            up.cylinder(3 + k, 1);
            due("the 69th of RETRACT", up, 110, 0);
            due("the 70th of RETRACT", up, 111, 8);
            LandingGears down = Ways.movingDown();
            down.cylinder(3 + k, 1);
            due("the 69th of EXTEND", down, 207, 0);
            due("the 70th of EXTEND", down, 208, 8);
            for (int tick = 109; tick <= 113; tick++) {
                LandingGears seen = Ways.goingUpTo(60);
                seen.cylinder(3, 1);
                blindIn(seen, tick, 9 + k, 2);
                due("gear " + k + " seen DOWN in " + tick, seen, tick, tick < 111 ? 0 : 8);
            }
        }
    }

    /** "where it came from": between its ends, or seen at the other one, it is no cause. */
    private static void cause8OnlyWhereItCameFrom() {
        LandingGears between = Ways.goingUpTo(52);
        between.cylinder(4, 1);
        Due.is("one step away", between.plant(4), 14);
        due("RETRACT, all away from DOWN", between, 140, 0);
        LandingGears other = Ways.goingUpTo(60);
        other.cylinder(4, 1);
        blindIn(other, 120, 12, 1);
        due("RETRACT, one not seen UP", other, 120, 0);
        Due.is("others UP", other.sees(0, 14, 0), 1);
        due("RETRACT, some seen UP", other, 125, 0);

        LandingGears down = Ways.movingDown();
        Ways.to(down, 149);
        down.cylinder(5, 1);
        Due.is("one step away", down.plant(5), 1);
        due("EXTEND, all away from UP, some seen DOWN", down, 237, 0);
    }

    /** A HELD in between, and the seventy begin anew. */
    private static void cause8CountsAnew() {
        LandingGears x = Ways.goingUp();
        x.cylinder(3, 1);
        Ways.to(x, 100);
        x.handle(1);
        Ways.to(x, 103);
        x.handle(0);
        Ways.to(x, 105);
        Ways.stage("MOVING anew", x, 3, 0);
        Due.is("RETRACT", x.plant(17), 19);
        due("the 69th of the new order", x, 173, 0);
        due("the 70th of the new order", x, 174, 8);
    }

    /** "9 in this and the 99 before, and some is not seen DOWN, UP": each gear. */
    private static void cause9FromTheHundredth() {
        for (int k = 0; k < 3; k++) {
            LandingGears up = Ways.goingUpTo(60);
            up.cylinder(3 + k, 1);
            due("the 99th of RETRACT", up, 140, 0);
            due("the 100th of RETRACT", up, 141, 9);
            LandingGears down = Ways.movingDown();
            Ways.to(down, 155);
            down.cylinder(3 + k, 1);
            due("the 99th of EXTEND", down, 237, 0);
            due("the 100th of EXTEND", down, 238, 9);
            LandingGears seen = Ways.goingUpTo(60);
            Ways.blind(seen, 12 + k, 1);
            Ways.to(seen, 140);
            Ways.blind(seen, 12 + k, 0);
            due("seen UP in the 100th", seen, 141, 0);
            Ways.stage("HELD", seen, 4, 0);
        }
    }

    /** What is borne is no matter of the watch. */
    private static void cause9Borne() {
        for (int bits = 0; bits <= 7; bits += 7) {
            LandingGears x = Ways.goingUpTo(60);
            x.cylinder(3, 1);
            x.ground(bits);
            due("borne " + bits + ", the 99th", x, 140, 0);
            due("borne " + bits + ", the 100th", x, 141, 9);
        }
    }

    /** "not seen DOWN, UP": DOWN for EXTEND, UP for RETRACT; turned, the hundred begin anew. */
    private static void cause9BothWays() {
        LandingGears x = Ways.goingUpTo(60);
        x.cylinder(3, 1);
        Ways.to(x, 120);
        x.handle(1);
        Ways.to(x, 122);
        Ways.stage("EXTEND", x, 3, 0);
        due("RETRACT is over", x, 141, 0);
        due("the 99th of EXTEND", x, 220, 0);
        due("the 100th of EXTEND", x, 221, 9);
    }

    /** "with the first of these CAUSES": two that hold in one tick. */
    private static void theFirstOfSeveral() {
        LandingGears oneTwo = Ways.goingUp();
        oneTwo.channel(17, 0, 2);
        Ways.to(oneTwo, 10);
        oneTwo.channel(17, 1, 2);
        due("1 before 2", blindIn(oneTwo, 11, 1, 1), 11, 1);

        LandingGears twoFour = Ways.goingUpTo(30);
        twoFour.handle(1);
        Ways.to(twoFour, 40);
        Ways.blind(twoFour, 2, 1);
        due("2 before 4", blindIn(twoFour, 41, 1, 1), 41, 2);

        LandingGears twoSix = Ways.goingUp(15, 40);
        Ways.to(twoSix, 62);
        twoSix.handle(1);
        Ways.to(twoSix, 72);
        Ways.blind(twoSix, 8, 1);
        due("2 before 6", blindIn(twoSix, 73, 1, 1), 73, 2);

        // Long ways and a gear that waits, so that GENERAL is ordered still 216 ticks behind the change.
        LandingGears threeFour = Ways.goingUp(40, 40);
        Ways.to(threeFour, 80);
        threeFour.cylinder(3, 1);
        Ways.to(threeFour, 125);
        threeFour.cylinder(3, 0);
        Ways.to(threeFour, 208);
        Ways.blind(threeFour, 2, 2);
        Ways.to(threeFour, 216);
        Ways.cause("neither yet", threeFour, 0);
        Ways.blind(threeFour, 2, 0);
        due("3 before 4", blindIn(threeFour, 217, 1, 2), 217, 3);

        LandingGears threeFive = Ways.plain();
        Ways.blind(threeFive, 2, 2);
        Ways.to(threeFive, 99);
        due("3 before 5", blindIn(threeFive, 100, 1, 2), 100, 3);

        LandingGears fourSix = Ways.goingUp(15, 40);
        Ways.to(fourSix, 71);
        Ways.blind(fourSix, 6, 1);
        due("4 before 6", blindIn(fourSix, 72, 2, 1), 72, 4);

        LandingGears fourSeven = Ways.goingUpTo(80);
        fourSeven.cylinder(2, 1);
        due("4 before 7", blindIn(fourSeven, 137, 2, 1), 137, 4);

        LandingGears sixEight = Ways.goingUp();
        sixEight.cylinder(5, 1);
        due("6 before 8", blindIn(sixEight, 111, 6, 1), 111, 6);

        LandingGears sixNine = Ways.goingUpTo(60);
        sixNine.cylinder(5, 1);
        due("6 before 9", blindIn(sixNine, 141, 6, 1), 141, 6);

        LandingGears eightNine = Ways.goingUpTo(60);
        eightNine.cylinder(5, 1);
        due("8 before 9", blindIn(eightNine, 141, 9, 2), 141, 8);
    }

    /** "an ANOMALY, for good" */
    private static void forGood() {
        LandingGears x = Ways.goingUp();
        x.cylinder(0, 1);
        due("the cause", x, 72, 6);
        x.cylinder(0, 0);
        int rows = x.logged();
        x.run(1000);
        Ways.cause("mended", x, 6);
        Due.is("RED", x.lights(), 5);
        x.handle(1);
        x.run(1);
        x.handle(0);
        x.run(1000);
        Ways.cause("turned", x, 6);
        Due.is("no more rows", x.logged(), rows);
    }

    /** "with the first": one that comes later does not take its place, though it stands before it. */
    private static void theFirstStays() {
        LandingGears x = Ways.goingUp();
        x.cylinder(0, 1);
        due("the cause", x, 72, 6);
        int rows = x.logged();
        x.channel(17, 0, 2);
        x.run(1);
        x.channel(17, 1, 2);
        x.run(1);
        Due.is("INVALID", x.sees(0, 17, 1), 0);
        Ways.cause("1 comes too late", x, 6);
        Due.is("no row of it", x.logged(), rows);
    }

    /** "its orders are none from that tick on" */
    private static void ordersUpToTheTickBefore() {
        LandingGears x = Ways.goingUp();
        x.cylinder(0, 1);
        Ways.to(x, 71);
        Due.is("orders in the tick before", x.plant(17), 3);
        x.run(1);
        Due.is("none in that tick", x.plant(17), 0);
        Due.is("what was ordered is felt in it", x.plant(7), 360);
        x.run(1);
        Due.is("none is felt in the next", x.plant(7), 350);
    }

    private static void noneWithoutFaults() {
        LandingGears x = new LandingGears(40, 40, 40, 40);
        x.ground(0);
        for (int i = 0; i < 20; i++) {
            x.handle(i % 2);
            x.run(1);
            x.settle(1000);
            Ways.cause("without FAULTS", x, 0);
            x.run(20 * i + 1);
            Ways.cause("at REST", x, 0);
        }
    }
}
