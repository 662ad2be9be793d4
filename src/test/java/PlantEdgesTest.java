/** The edges of "1 THE PLANT", "4 FAULTS of the plant" and "A TICK": a test for each sentence that names one. */
public final class PlantEdgesTest {
    private static final int LEVEL = 11;
    private static final int HOLD = 12;
    private static final int SCRAPES = 16;
    private static final int ORDERED = 17;

    public static void main(String[] args) {
        handleAtFirst();
        eachMoveMakesHold200();
        aMoveThereAndBack();
        levelGrowsBy3();
        level24AtMost();
        holdOneLessAt24();
        levelTwoLessWithHold0();
        level0AtLeast();
        closedAt24Alone();
        generalFedWhenOrderedAndClosed();
        othersFedByGenerals360();
        pressureGrowsBy36To360();
        pressureTenLessTo0();
        cylindersAtFirst();
        doorsMoveBy360Alone();
        doorsStayBetweenBoth();
        gearsMoveBy360Alone();
        gearsStayBetweenBoth();
        placesNotBeyondTheirEnds();
        shortestAndLongestCylinders();
        scrapeByItsOwnDoor();
        scrapeOneEachTickAndGear();
        scrapeByDoorsBehindTheTick();
        noScrapeWithoutAMove();
        groundAtFirst();
        cylinderStuck();
        valveNeverFed();
        valveAlwaysFed();
        switchStuck();
        aTicksOrder();
        Due.end();
    }

    private static void plant(String what, LandingGears x, int number, int want) {
        Due.is(what + ": plant(" + number + ") at " + x.plant(15), x.plant(number), want);
    }

    private static void three(String what, LandingGears x, int first, int want) {
        for (int k = first; k < first + 3; k++) {
            plant(what, x, k, want);
        }
    }

    /** "THE HANDLE is up (0) or down (1; at first)." */
    private static void handleAtFirst() {
        LandingGears x = Ways.plain();
        plant("handle at first", x, 13, 1);
        Due.is("it was down", x.handle(0), 1);
        plant("handle up", x, 13, 0);
        Due.is("it was up", x.handle(1), 0);
        plant("handle down", x, 13, 1);
    }

    /** "THE SWITCH has ... a HOLD (0): each move of the handle to another place makes HOLD 200." */
    private static void eachMoveMakesHold200() {
        LandingGears x = Ways.plain();
        plant("HOLD at first", x, HOLD, 0);
        x.handle(1);
        plant("no move", x, HOLD, 0);
        x.handle(0);
        plant("a move", x, HOLD, 200);
        Ways.to(x, 207);
        plant("the last but one", x, HOLD, 1);
        x.handle(0);
        plant("no move at HOLD 1", x, HOLD, 1);
        x.handle(1);
        plant("a move at HOLD 1", x, HOLD, 200);
        x.handle(0);
        x.run(150);
        plant("from 200 anew", x, HOLD, 50);
        x.run(52);
        plant("HOLD is over", x, HOLD, 0);
        x.handle(0);
        plant("no move at HOLD 0", x, HOLD, 0);
        x.handle(2);
        x.handle(-1);
        plant("refused moves", x, HOLD, 0);
        x.handle(1);
        plant("a move at HOLD 0", x, HOLD, 200);
    }

    /** "each move": two moves between two ticks make HOLD 200 as well, though no module sees one. */
    private static void aMoveThereAndBack() {
        LandingGears x = Ways.plain();
        x.handle(0);
        x.handle(1);
        plant("there and back", x, HOLD, 200);
        x.run(7);
        plant("there and back", x, LEVEL, 21);
        Ways.stage("nothing seen", x, 0, 7);
        Ways.cause("not CLOSED yet", x, 0);
        x.run(1);
        Ways.cause("CLOSED without a change seen", x, 3);
    }

    /** "with HOLD above 0, the level grows by 3" */
    private static void levelGrowsBy3() {
        LandingGears x = Ways.plain();
        x.run(3);
        plant("HOLD 0", x, LEVEL, 0);
        x.handle(0);
        for (int i = 1; i <= 8; i++) {
            x.run(1);
            plant("growing", x, LEVEL, 3 * i);
            plant("HOLD stays below 24", x, HOLD, 200);
        }
    }

    /** "the level grows by 3, 24 at most" */
    private static void level24AtMost() {
        int[][] levels = {{209, 22, 24, 24}, {210, 20, 23, 24}, {211, 18, 21, 24}, {214, 12, 15, 18}, {219, 2, 5, 8}};
        for (int[] row : levels) {
            LandingGears x = Ways.goingUpTo(row[0]);
            plant("going down", x, LEVEL, row[1]);
            x.handle(1);
            x.run(1);
            plant("going up", x, LEVEL, row[2]);
            plant("HOLD stays in the tick that comes to 24", x, HOLD, 200);
            x.run(1);
            plant("going up", x, LEVEL, row[3]);
        }
        LandingGears x = Ways.goingUpTo(208);
        x.handle(1);
        x.run(1);
        plant("24 still", x, LEVEL, 24);
        plant("at 24 it is one less at once", x, HOLD, 199);
    }

    /** "or, when it is 24, HOLD becomes one less" */
    private static void holdOneLessAt24() {
        LandingGears x = Ways.goingUpTo(8);
        plant("24 is come to", x, LEVEL, 24);
        plant("not in that tick", x, HOLD, 200);
        x.run(1);
        plant("in the next", x, HOLD, 199);
        Ways.to(x, 207);
        plant("the last but one", x, HOLD, 1);
        x.run(1);
        plant("the last", x, HOLD, 0);
        plant("24 in the tick in which HOLD is over", x, LEVEL, 24);
        x.run(1);
        plant("0 at least", x, HOLD, 0);
    }

    /** "with HOLD 0 the level becomes 2 less" */
    private static void levelTwoLessWithHold0() {
        LandingGears x = Ways.goingUpTo(208);
        for (int level = 22; level >= 0; level -= 2) {
            x.run(1);
            plant("going down", x, LEVEL, level);
        }
    }

    /** "the level becomes 2 less, 0 at least" */
    private static void level0AtLeast() {
        LandingGears x = Ways.plain();
        x.run(1);
        plant("from 0", x, LEVEL, 0);
        LandingGears y = Ways.goingUpTo(219);
        plant("the last", y, LEVEL, 2);
        y.run(1);
        plant("0 is come to", y, LEVEL, 0);
        y.run(1);
        plant("0 at least", y, LEVEL, 0);
        y.run(1000);
        plant("0 for long", y, LEVEL, 0);
    }

    /** "It is CLOSED at 24." */
    private static void closedAt24Alone() {
        LandingGears x = Ways.goingUpTo(7);
        Due.is("21 is not CLOSED", x.tells(1, 0), 0);
        plant("GENERAL ordered at 21", x, ORDERED, 3);
        plant("GENERAL not fed at 21", x, 6, 0);
        x.run(1);
        Due.is("24 is CLOSED", x.tells(1, 0), 1);
        plant("GENERAL fed at 24", x, 6, 36);
        Ways.to(x, 209);
        Due.is("22 is not CLOSED", x.tells(1, 0), 0);

        LandingGears at23 = Ways.goingUpTo(210);
        at23.handle(1);
        at23.run(1);
        at23.stick(1);
        at23.run(1);
        plant("stuck", at23, LEVEL, 23);
        plant("GENERAL ordered at 23", at23, ORDERED, 1);
        plant("GENERAL not fed at 23", at23, 6, 0);
        Due.is("23 is not CLOSED", at23.tells(1, 0), 0);
        at23.stick(0);
        at23.run(1);
        Due.is("24 is CLOSED again", at23.tells(1, 0), 1);
        plant("GENERAL fed again", at23, 6, 36);
    }

    /** "A valve is FED: GENERAL when it is ordered and the switch is CLOSED" */
    private static void generalFedWhenOrderedAndClosed() {
        LandingGears x = Ways.goingUpTo(102);
        plant("ordered up to here", x, 6, 360);
        plant("not ordered at REST", x, ORDERED, 0);
        x.run(1);
        plant("CLOSED, not ordered", x, 6, 350);
        Due.is("CLOSED", x.tells(1, 0), 1);

        LandingGears y = Ways.goingUp();
        y.stick(1);
        y.run(9);
        plant("ordered, not CLOSED", y, ORDERED, 3);
        plant("ordered, not CLOSED", y, 6, 0);

        LandingGears z = Ways.plain();
        z.run(20);
        plant("neither", z, 6, 0);
    }

    /** "another one when it is ordered and GENERAL'S pressure is 360" */
    private static void othersFedByGenerals360() {
        LandingGears x = Ways.goingUpTo(16);
        plant("GENERAL below 360", x, 6, 324);
        plant("OPEN ordered", x, ORDERED, 3);
        plant("OPEN not fed", x, 7, 0);
        x.run(1);
        plant("GENERAL at 360 behind this tick", x, 6, 360);
        plant("not before it", x, 7, 0);
        x.run(1);
        plant("OPEN fed", x, 7, 36);
        three("360, not ordered", x, 8, 0);

        LandingGears dip = Ways.goingUpTo(20);
        dip.valve(0, 1);
        dip.run(1);
        plant("GENERAL 350 behind this tick", dip, 6, 350);
        plant("OPEN fed by the 360 before it", dip, 7, 144);
        dip.valve(0, 0);
        dip.run(1);
        plant("GENERAL 360 behind this tick", dip, 6, 360);
        plant("OPEN not fed by the 350 before it", dip, 7, 134);
        dip.run(1);
        plant("OPEN fed again", dip, 7, 170);
    }

    /** "In a tick the pressure grows by 36 when it is fed ... (360 at most ...)." */
    private static void pressureGrowsBy36To360() {
        LandingGears x = Ways.goingUpTo(7);
        for (int i = 1; i <= 10; i++) {
            x.run(1);
            plant("growing", x, 6, 36 * i);
        }
        x.run(1);
        plant("360 at most", x, 6, 360);
        int[][] lessAndMore = {{1, 350, 360}, {2, 340, 360}, {3, 330, 360}, {4, 320, 356}};
        for (int[] row : lessAndMore) {
            LandingGears y = Ways.goingUpTo(18);
            y.valve(0, 1);
            y.run(row[0]);
            plant("less", y, 6, row[1]);
            y.valve(0, 0);
            y.run(1);
            plant("more", y, 6, row[2]);
            y.run(1);
            plant("360 then", y, 6, 360);
        }
        LandingGears others = Ways.goingUpTo(66);
        plant("OPEN at most", others, 7, 360);
        plant("RETRACT at most", others, 10, 360);
        Ways.to(others, 92);
        plant("CLOSE at most", others, 8, 360);
        LandingGears down = Ways.movingDown();
        Ways.to(down, 163);
        plant("EXTEND at most", down, 9, 360);
    }

    /** "else becomes 10 less (... 0 at least)" */
    private static void pressureTenLessTo0() {
        LandingGears x = Ways.goingUpTo(8);
        x.valve(0, 1);
        int[] less = {26, 16, 6, 0, 0};
        for (int want : less) {
            x.run(1);
            plant("0 at least", x, 6, want);
        }
        LandingGears y = Ways.plain();
        y.run(1);
        for (int v = 6; v <= 10; v++) {
            plant("from 0", y, v, 0);
        }
        LandingGears others = Ways.goingUpTo(18);
        others.valve(1, 1);
        others.run(3);
        plant("OPEN ten less", others, 7, 6);
        others.run(1);
        plant("OPEN 0 at least", others, 7, 0);
        LandingGears long360 = Ways.goingUpTo(103);
        plant("from 360", long360, 6, 350);
        Ways.to(long360, 137);
        plant("the last ten", long360, 6, 10);
        long360.run(1);
        plant("0", long360, 6, 0);
        long360.run(1);
        plant("0 at least", long360, 6, 0);
    }

    /** "a door is SHUT at 0 (at first) and OPEN at its length, a gear UP at 0 and DOWN at its length (at first)" */
    private static void cylindersAtFirst() {
        LandingGears x = new LandingGears(5, 40, 6, 39);
        int[] places = {0, 0, 0, 6, 39, 39};
        for (int k = 0; k < 6; k++) {
            plant("at first", x, k, places[k]);
        }
        for (int k = 0; k < 3; k++) {
            Due.is("SHUT at first", x.tells(3 + k, 0), 1);
            Due.is("not OPEN at first", x.tells(6 + k, 0), 0);
            Due.is("DOWN at first", x.tells(9 + k, 0), 1);
            Due.is("not UP at first", x.tells(12 + k, 0), 0);
        }
    }

    /** "a door's place grows by 1 if OPEN'S pressure is 360 ..., becomes 1 less if CLOSE'S is" */
    private static void doorsMoveBy360Alone() {
        LandingGears x = Ways.goingUpTo(26);
        plant("OPEN below 360", x, 7, 324);
        three("doors wait", x, 0, 0);
        x.run(1);
        three("OPEN at 360", x, 0, 1);
        x.run(1);
        three("one a tick", x, 0, 2);
        x.valve(1, 1);
        x.run(1);
        plant("OPEN 350", x, 7, 350);
        three("doors stop at 350", x, 0, 2);
        x.valve(1, 0);
        x.run(1);
        three("doors go on at 360", x, 0, 3);

        LandingGears y = Ways.goingUpTo(77);
        plant("CLOSE below 360", y, 8, 324);
        three("doors wait", y, 0, 15);
        y.run(1);
        three("CLOSE at 360", y, 0, 14);
        y.run(1);
        three("one less a tick", y, 0, 13);
        y.valve(2, 1);
        y.run(1);
        plant("CLOSE 350", y, 8, 350);
        three("doors stop at 350", y, 0, 13);
        y.valve(2, 0);
        y.run(1);
        three("doors go on at 360", y, 0, 12);
    }

    /** "if OPEN'S pressure is 360 and CLOSE'S is not, ... if CLOSE'S is and OPEN'S is not" */
    private static void doorsStayBetweenBoth() {
        LandingGears x = Ways.goingUp();
        x.valve(2, 2);
        Ways.to(x, 35);
        plant("OPEN", x, 7, 360);
        plant("CLOSE", x, 8, 360);
        three("both at 360", x, 0, 0);
        x.valve(2, 1);
        x.run(1);
        plant("CLOSE a little less", x, 8, 350);
        three("OPEN alone", x, 0, 1);
        x.run(4);
        three("OPEN alone", x, 0, 5);
        x.valve(2, 2);
        x.run(1);
        three("OPEN still alone", x, 0, 6);
        x.run(1);
        plant("CLOSE 346 and more", x, 8, 360);
        three("both again", x, 0, 6);
        x.valve(1, 1);
        x.run(1);
        plant("OPEN a little less", x, 7, 350);
        three("CLOSE alone", x, 0, 5);
    }

    /** "a gear's likewise by EXTEND and RETRACT" */
    private static void gearsMoveBy360Alone() {
        LandingGears x = Ways.goingUpTo(51);
        plant("RETRACT below 360", x, 10, 324);
        three("gears wait", x, 3, 15);
        x.run(1);
        three("RETRACT at 360", x, 3, 14);
        x.valve(4, 1);
        x.run(1);
        plant("RETRACT 350", x, 10, 350);
        three("gears stop at 350", x, 3, 14);
        x.valve(4, 0);
        x.run(1);
        three("gears go on at 360", x, 3, 13);

        LandingGears y = Ways.movingDown();
        Ways.to(y, 148);
        plant("EXTEND below 360", y, 9, 324);
        three("gears wait", y, 3, 0);
        y.run(1);
        three("EXTEND at 360", y, 3, 1);
        y.valve(3, 1);
        y.run(1);
        plant("EXTEND 350", y, 9, 350);
        three("gears stop at 350", y, 3, 1);
        y.valve(3, 0);
        y.run(1);
        three("gears go on at 360", y, 3, 2);
    }

    /** "likewise": a gear stays while both are at 360, and goes by the one that is left. */
    private static void gearsStayBetweenBoth() {
        LandingGears x = Ways.goingUpTo(42);
        x.valve(3, 2);
        x.run(10);
        plant("EXTEND", x, 9, 360);
        plant("RETRACT", x, 10, 360);
        three("both at 360", x, 3, 15);
        x.valve(3, 1);
        x.run(1);
        three("RETRACT alone", x, 3, 14);
        x.run(3);
        three("RETRACT alone", x, 3, 11);
        x.valve(3, 2);
        x.run(1);
        three("RETRACT still alone", x, 3, 10);
        x.run(1);
        three("both again", x, 3, 10);
        x.valve(4, 1);
        x.run(1);
        three("EXTEND alone", x, 3, 11);
        plant("under OPEN doors", x, SCRAPES, 0);
    }

    /** "not beyond its ends" */
    private static void placesNotBeyondTheirEnds() {
        LandingGears x = Ways.goingUpTo(41);
        three("doors at their length", x, 0, 15);
        Ways.to(x, 65);
        three("the last step", x, 3, 1);
        x.run(1);
        plant("OPEN at 360 still", x, 7, 360);
        three("doors not beyond", x, 0, 15);
        three("gears UP", x, 3, 0);
        x.valve(4, 2);
        x.run(5);
        plant("RETRACT at 360 again", x, 10, 360);
        three("gears not below 0", x, 3, 0);
        x.valve(2, 2);
        Ways.to(x, 92);
        three("doors SHUT", x, 0, 0);
        x.run(3);
        plant("CLOSE at 360 still", x, 8, 360);
        three("doors not below 0", x, 0, 0);
        plant("no scrape of gears that are UP", x, SCRAPES, 0);

        LandingGears y = Ways.plain();
        y.valve(0, 2);
        y.valve(3, 2);
        y.run(40);
        plant("EXTEND at 360", y, 9, 360);
        three("gears not beyond their length", y, 3, 15);
        plant("no scrape of gears that are DOWN", y, SCRAPES, 0);
    }

    /** "each with a LENGTH and a PLACE 0 .. LENGTH": the shortest and the longest that can be. */
    private static void shortestAndLongestCylinders() {
        int[][] lengths = {{5, 5, 5, 5}, {40, 40, 40, 40}, {5, 40, 40, 5}, {40, 5, 5, 40}};
        for (int[] row : lengths) {
            LandingGears x = new LandingGears(row[0], row[1], row[2], row[3]);
            x.ground(0);
            x.handle(0);
            int[] own = {row[0], row[1], row[1], row[2], row[3], row[3]};
            Ways.to(x, 26);
            for (int i = 1; i <= Math.max(row[0], row[1]) + 1; i++) {
                x.run(1);
                for (int k = 0; k < 3; k++) {
                    plant("door " + k, x, k, Math.min(own[k], i));
                    Due.is("OPEN at its length", x.tells(6 + k, 1), i >= own[k] ? 1 : 0);
                }
            }
            x.settle(1000);
            three("UP", x, 3, 0);
            three("SHUT", x, 0, 0);
            x.handle(1);
            x.run(1);
            x.settle(1000);
            for (int k = 3; k < 6; k++) {
                plant("DOWN", x, k, own[k]);
            }
        }
    }

    /** "A gear that moves while its door (0 for 3, 1 for 4, 2 for 5) is not OPEN is a SCRAPE" */
    private static void scrapeByItsOwnDoor() {
        for (int door = 0; door < 3; door++) {
            for (int gear = 0; gear < 3; gear++) {
                LandingGears x = Ways.goingUp();
                for (int k = 3; k < 6; k++) {
                    x.cylinder(k, 1);
                }
                x.valve(4, 2);
                Ways.to(x, 40);
                x.cylinder(door, 1);
                x.run(1);
                plant("one short of OPEN", x, door, 14);
                x.cylinder(3 + gear, 0);
                x.run(1);
                plant("the gear moves", x, 3 + gear, 14);
                plant("door " + door + ", gear " + gear, x, SCRAPES, door == gear ? 1 : 0);
                Due.is("safe", x.safe(), door != gear);
            }
        }
    }

    /** "(one each tick and gear)" */
    private static void scrapeOneEachTickAndGear() {
        for (int moving = 0; moving <= 3; moving++) {
            LandingGears x = Ways.goingUp();
            for (int k = 3 + moving; k < 6; k++) {
                x.cylinder(k, 1);
            }
            x.valve(4, 2);
            Ways.to(x, 26);
            plant("none yet", x, SCRAPES, 0);
            for (int tick = 1; tick <= 3; tick++) {
                x.run(1);
                plant(moving + " gears", x, SCRAPES, moving * tick);
            }
        }
    }

    /** "the doors, the gears (by pressures and doors behind this tick)" */
    private static void scrapeByDoorsBehindTheTick() {
        LandingGears coming = Ways.goingUp();
        for (int k = 3; k < 6; k++) {
            coming.cylinder(k, 1);
        }
        coming.valve(4, 2);
        Ways.to(coming, 40);
        for (int k = 3; k < 6; k++) {
            coming.cylinder(k, 0);
        }
        coming.run(1);
        three("gears move", coming, 3, 14);
        three("in the tick in which the doors come to OPEN", coming, 0, 15);
        plant("no scrape", coming, SCRAPES, 0);

        LandingGears leaving = Ways.goingUpTo(66);
        leaving.valve(3, 2);
        Ways.to(leaving, 77);
        three("gears move", leaving, 3, 2);
        plant("no scrape while OPEN", leaving, SCRAPES, 0);
        leaving.run(1);
        three("doors leave OPEN", leaving, 0, 14);
        plant("a scrape each, in that tick", leaving, SCRAPES, 3);
    }

    /** "A gear that moves": one that is STUCK, or at its end, is none. */
    private static void noScrapeWithoutAMove() {
        LandingGears x = Ways.goingUp();
        for (int k = 0; k < 6; k++) {
            x.cylinder(k, 1);
        }
        x.valve(4, 2);
        Ways.to(x, 50);
        plant("STUCK gears", x, SCRAPES, 0);
        plant("RETRACT", x, 10, 360);
        for (int k = 3; k < 6; k++) {
            x.cylinder(k, 0);
        }
        x.run(15);
        three("UP under SHUT doors", x, 3, 0);
        plant("fifteen each", x, SCRAPES, 45);
        x.run(5);
        plant("no more at the end", x, SCRAPES, 45);
    }

    /** "THE GROUND bears some of the gears (bits 0 .. 2; 7 at first)." */
    private static void groundAtFirst() {
        LandingGears x = Ways.plain();
        plant("at first", x, 14, 7);
        for (int bits = 0; bits <= 7; bits++) {
            x.ground(bits);
            plant("as it was set", x, 14, bits);
            x.run(1);
            for (int k = 0; k < 3; k++) {
                Due.is("gear " + k + " of " + bits, x.tells(15 + k, 2), bits >> k & 1);
            }
        }
    }

    /** "a cylinder STUCK does not move": out or in, each by itself, and it goes on when it is not STUCK. */
    private static void cylinderStuck() {
        for (int k = 0; k < 6; k++) {
            int out = k < 3 ? 30 : 55;
            LandingGears x = Ways.goingUpTo(out);
            int place = x.plant(k);
            x.cylinder(k, 1);
            x.run(3);
            for (int other = k / 3 * 3; other < k / 3 * 3 + 3; other++) {
                plant("cylinder " + k + " STUCK", x, other, other == k ? place : k < 3 ? place + 3 : place - 3);
            }
            x.cylinder(k, 0);
            x.run(1);
            plant("it goes on", x, k, k < 3 ? place + 1 : place - 1);

            LandingGears back = k < 3 ? Ways.goingUpTo(80) : Ways.movingDown();
            Ways.to(back, k < 3 ? 80 : 150);
            place = back.plant(k);
            back.cylinder(k, 1);
            back.run(3);
            for (int other = k / 3 * 3; other < k / 3 * 3 + 3; other++) {
                plant("cylinder " + k + " STUCK", back, other, other == k ? place : k < 3 ? place - 3 : place + 3);
            }
            back.cylinder(k, 0);
            back.run(1);
            plant("it goes on", back, k, k < 3 ? place - 1 : place + 1);
        }
    }

    /** "a valve STUCK is never fed (1)": each of them, while it is ordered and would be. */
    private static void valveNeverFed() {
        int[][] fedAt = {{0, 12}, {1, 22}, {2, 73}, {3, 144}, {4, 47}};
        for (int[] row : fedAt) {
            int number = 6 + row[0];
            LandingGears x = row[0] == 3 ? Ways.movingDown() : Ways.goingUp();
            Ways.to(x, row[1]);
            int pressure = x.plant(number);
            Due.is("it is fed", pressure > 36, true);
            x.valve(row[0], 1);
            x.run(2);
            Due.is("it is ordered", x.plant(ORDERED) >> row[0] & 1, 1);
            plant("never fed", x, number, pressure - 20);
            x.valve(row[0], 0);
            x.run(1);
            plant("fed again", x, number, pressure - 20 + 36);
        }
    }

    /** "or always, if GENERAL'S pressure is 360 (for GENERAL: whatever is ordered, and the switch is) (2)" */
    private static void valveAlwaysFed() {
        LandingGears x = Ways.plain();
        x.valve(0, 2);
        for (int v = 1; v < 5; v++) {
            x.valve(v, 2);
        }
        x.run(1);
        plant("nothing is ordered", x, ORDERED, 0);
        plant("the switch is not CLOSED", x, LEVEL, 0);
        plant("GENERAL always fed", x, 6, 36);
        x.run(9);
        plant("GENERAL comes to 360", x, 6, 360);
        for (int v = 1; v < 5; v++) {
            plant("not by less than 360 before the tick", x, 6 + v, 0);
        }
        x.run(1);
        for (int v = 1; v < 5; v++) {
            plant("always by 360", x, 6 + v, 36);
        }
        x.valve(0, 1);
        x.run(1);
        plant("GENERAL 350", x, 6, 350);
        for (int v = 1; v < 5; v++) {
            plant("by the 360 before the tick", x, 6 + v, 72);
        }
        x.run(1);
        for (int v = 1; v < 5; v++) {
            plant("not by 350", x, 6 + v, 62);
            plant("still nothing ordered", x, ORDERED, 0);
        }
    }

    /** "the switch STUCK keeps its level (its HOLD too)" */
    private static void switchStuck() {
        int[][] levelsAndHolds = {{0, 0, 200}, {5, 15, 200}, {8, 24, 200}, {9, 24, 199}, {207, 24, 1}, {208, 24, 0},
            {209, 22, 0}, {219, 2, 0}, {220, 0, 0}};
        int[][] after = {{3, 200}, {18, 200}, {24, 199}, {24, 198}, {24, 0}, {22, 0}, {20, 0}, {0, 0}, {0, 0}};
        for (int i = 0; i < after.length; i++) {
            LandingGears x = Ways.goingUpTo(levelsAndHolds[i][0]);
            x.stick(1);
            x.run(7);
            plant("level kept", x, LEVEL, levelsAndHolds[i][1]);
            plant("HOLD kept", x, HOLD, levelsAndHolds[i][2]);
            x.stick(0);
            x.run(1);
            plant("level goes on", x, LEVEL, after[i][0]);
            plant("HOLD goes on", x, HOLD, after[i][1]);
        }
    }

    /** "A TICK: the switch, the valves ..., the doors, the gears ...; then sensors; then" the modules; "their orders are felt in the next tick." */
    private static void aTicksOrder() {
        LandingGears x = Ways.goingUp();
        x.run(1);
        plant("ordered in the tick", x, ORDERED, 1);
        Ways.to(x, 8);
        plant("the switch before GENERAL", x, 6, 36);
        Ways.to(x, 26);
        three("OPEN below 360", x, 0, 0);
        x.run(1);
        three("the valves before the doors", x, 0, 1);
        Ways.to(x, 41);
        Ways.stage("the doors before the sensors, and those before the modules", x, 4, 0);
        x.run(1);
        plant("RETRACT is ordered", x, ORDERED, 19);
        plant("it is not felt yet", x, 10, 0);
        x.run(1);
        plant("it is felt in the next tick", x, 10, 36);
        Ways.to(x, 52);
        three("the valves before the gears", x, 3, 14);

        // Long ways and two cylinders that wait, so that GENERAL is ordered still when HOLD is over.
        LandingGears slow = Ways.goingUp(40, 40);
        Ways.to(slow, 80);
        slow.cylinder(3, 1);
        Ways.to(slow, 120);
        slow.cylinder(3, 0);
        Ways.to(slow, 208);
        plant("GENERAL ordered", slow, ORDERED, 1);
        plant("CLOSED still", slow, 6, 360);
        slow.run(1);
        plant("the switch opens", slow, LEVEL, 22);
        plant("GENERAL not fed in that tick", slow, 6, 350);
    }
}
