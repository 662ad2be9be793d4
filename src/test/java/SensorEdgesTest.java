/** The edges of "2 SENSORS": what they tell, and what the modules see of it by their votes. */
public final class SensorEdgesTest {
    private static final int[] AT_FIRST = {1, 0, 0, 1, 1, 1, 0, 0, 0, 1, 1, 1, 0, 0, 0, 1, 1, 1};

    public static void main(String[] args) {
        trueOrNotByTick();
        handleAndGroundBehindTheTick();
        pressureSensorBelow360();
        eachDoorAndGearHasItsOwn();
        channelsTellByFault();
        faultAsItIsNow();
        allThreeInAtFirst();
        threeTellTheSame();
        twoOfThreeDiffer();
        theThirdIsOutForGood();
        twoTellTheSame();
        twoDiffer();
        whatWasSeenLastStays();
        invalidForGood();
        invalidOnlyBySensor();
        beforeTheFirstTick();
        modulesHaveTheirOwnChannels();
        Due.end();
    }

    private static void told(String what, LandingGears x, int sensor, int want) {
        for (int c = 0; c < 3; c++) {
            Due.is(what + ": sensor " + sensor + " at " + x.plant(15), x.tells(sensor, c), want);
        }
    }

    /** The channels tell these bits, whatever is true. */
    private static void force(LandingGears x, int sensor, int bits) {
        for (int c = 0; c < 3; c++) {
            x.channel(sensor, c, (bits >> c & 1) == 1 ? 2 : 1);
        }
    }

    private static void seen(String what, LandingGears x, int sensor, int want, int in) {
        for (int m = 0; m < 2; m++) {
            Due.is(what + ": seen of " + sensor + " by " + m, x.sees(m, sensor, 0), want);
            Due.is(what + ": channels in of " + sensor + " for " + m, x.sees(m, sensor, 1), in);
        }
    }

    /** "1 the switch is CLOSED; 2 GENERAL'S pressure is 360; 3, 4, 5 the doors are SHUT; 6, 7, 8 OPEN; ... DOWN; ... UP" */
    private static void trueOrNotByTick() {
        int[][] turns = {
            // sensor, the ticks in which what it tells changes
            {0, 1}, {1, 8, 209}, {2, 17, 103}, {3, 27, 92}, {4, 27, 92}, {5, 27, 92}, {6, 41, 78}, {7, 41, 78},
            {8, 41, 78}, {9, 52}, {10, 52}, {11, 52}, {12, 66}, {13, 66}, {14, 66}, {15, 1}, {16, 1}, {17, 1},
        };
        for (int[] row : turns) {
            LandingGears x = Ways.goingUp();
            int now = AT_FIRST[row[0]];
            for (int i = 1; i < row.length; i++) {
                Ways.to(x, row[i] - 1);
                told("before", x, row[0], now);
                x.run(1);
                now = 1 - now;
                told("from then on", x, row[0], now);
                seen("at once", x, row[0], now, 7);
            }
            Ways.to(x, 250);
            told("to the end", x, row[0], now);
        }
    }

    /** "0 the handle is down ... 15, 16, 17 borne": what was true behind the tick, not what is moved since. */
    private static void handleAndGroundBehindTheTick() {
        LandingGears x = Ways.goingUp();
        told("before any tick as at first", x, 0, 1);
        told("before any tick as at first", x, 15, 1);
        x.run(1);
        told("up", x, 0, 0);
        told("not borne", x, 15, 0);
        x.handle(1);
        x.ground(7);
        told("up still", x, 0, 0);
        told("not borne still", x, 17, 0);
        x.run(1);
        told("down", x, 0, 1);
        told("borne", x, 17, 1);
    }

    /** "2 GENERAL'S pressure is 360": 350 is not enough. */
    private static void pressureSensorBelow360() {
        LandingGears x = Ways.goingUpTo(20);
        told("360", x, 2, 1);
        x.valve(0, 1);
        x.run(1);
        Due.is("one step less", x.plant(6), 350);
        told("350", x, 2, 0);
        x.valve(0, 0);
        x.run(1);
        told("360 again", x, 2, 1);
    }

    private static void eachDoorAndGearHasItsOwn() {
        for (int k = 0; k < 3; k++) {
            LandingGears x = Ways.goingUp();
            x.cylinder(k, 1);
            Ways.to(x, 50);
            for (int other = 0; other < 3; other++) {
                told("door " + k + " STUCK", x, 3 + other, other == k ? 1 : 0);
                told("door " + k + " STUCK", x, 6 + other, other == k ? 0 : 1);
            }
            LandingGears y = Ways.goingUp();
            y.cylinder(3 + k, 1);
            y.ground(1 << k);
            y.run(1);
            for (int other = 0; other < 3; other++) {
                told("gear " + k + " borne", y, 15 + other, other == k ? 1 : 0);
            }
            y.ground(0);
            Ways.to(y, 80);
            for (int other = 0; other < 3; other++) {
                told("gear " + k + " STUCK", y, 9 + other, other == k ? 1 : 0);
                told("gear " + k + " STUCK", y, 12 + other, other == k ? 0 : 1);
            }
        }
    }

    /** "by a FAULT: 1 always 0, 2 always 1, 3 the contrary", or none. */
    private static void channelsTellByFault() {
        for (int s = 0; s < 18; s++) {
            for (int c = 0; c < 3; c++) {
                LandingGears x = Ways.plain();
                int[] want = {AT_FIRST[s], 0, 1, 1 - AT_FIRST[s]};
                for (int fault = 0; fault <= 3; fault++) {
                    x.channel(s, c, fault);
                    for (int other = 0; other < 3; other++) {
                        Due.is("fault " + fault + " of " + s + ", " + c, x.tells(s, other),
                            other == c ? want[fault] : AT_FIRST[s]);
                    }
                    Due.is("the next sensor", x.tells((s + 1) % 18, c), AT_FIRST[(s + 1) % 18]);
                }
            }
        }
    }

    /** "by what was true behind the latest tick ... and its FAULT as it is now" */
    private static void faultAsItIsNow() {
        LandingGears x = Ways.goingUpTo(1);
        int[][] told = {{0, 0}, {1, 0}, {2, 1}, {3, 1}, {0, 0}};
        for (int[] row : told) {
            x.channel(0, 2, row[0]);
            Due.is("fault " + row[0] + " of what is not true", x.tells(0, 2), row[1]);
        }
        seen("no vote between ticks", x, 0, 0, 7);
        x.handle(1);
        x.channel(0, 2, 3);
        Due.is("the contrary of what was true", x.tells(0, 2), 1);
        x.run(1);
        Due.is("the contrary of what is true", x.tells(0, 2), 0);
    }

    /** "the channels that are IN (all three at first)" */
    private static void allThreeInAtFirst() {
        LandingGears x = Ways.plain();
        for (int s = 0; s < 18; s++) {
            seen("at first", x, s, AT_FIRST[s], 7);
        }
    }

    /** "With three: if all tell the same, that is SEEN" */
    private static void threeTellTheSame() {
        for (int s = 0; s < 18; s++) {
            for (int tell = 0; tell <= 1; tell++) {
                LandingGears x = Ways.plain();
                force(x, s, 7 * tell);
                x.run(1);
                seen("all tell " + tell, x, s, tell, 7);
                force(x, s, 7 - 7 * tell);
                x.run(1);
                seen("all tell the other", x, s, 1 - tell, 7);
            }
        }
    }

    /** "else what two of them tell, and the third one is OUT" */
    private static void twoOfThreeDiffer() {
        int[] out = {0, 1, 2, 4, 4, 2, 1, 0};
        for (int s = 0; s < 18; s++) {
            for (int bits = 1; bits <= 6; bits++) {
                LandingGears x = Ways.plain();
                force(x, s, bits);
                x.run(1);
                seen("bits " + bits, x, s, Integer.bitCount(bits) == 2 ? 1 : 0, 7 - out[bits]);
                Ways.cause("no anomaly by one OUT", x, s == 1 && Integer.bitCount(bits) == 2 ? 3 : 0);
            }
        }
    }

    /** "the third one is OUT for good" */
    private static void theThirdIsOutForGood() {
        for (int c = 0; c < 3; c++) {
            LandingGears x = Ways.plain();
            x.channel(16, c, 1);
            x.run(1);
            seen("OUT", x, 16, 1, 7 - (1 << c));
            x.channel(16, c, 0);
            x.run(500);
            seen("OUT though it is without a FAULT", x, 16, 1, 7 - (1 << c));
            x.ground(0);
            x.channel(16, c, 2);
            x.run(1);
            seen("OUT whatever it tells", x, 16, 0, 7 - (1 << c));
            Ways.cause("it does no harm", x, 0);
        }
    }

    /** "With two: what both tell" */
    private static void twoTellTheSame() {
        for (int s = 0; s < 18; s++) {
            for (int c = 0; c < 3; c++) {
                LandingGears x = Ways.plain();
                int both = 7 - (1 << c);
                force(x, s, AT_FIRST[s] == 1 ? both : 1 << c);
                x.run(1);
                seen("two are left", x, s, AT_FIRST[s], both);
                force(x, s, AT_FIRST[s] == 1 ? 1 << c : both);
                x.run(1);
                seen("both tell the other", x, s, 1 - AT_FIRST[s], both);
                force(x, s, AT_FIRST[s] == 1 ? both : 1 << c);
                x.run(1);
                seen("both tell as before", x, s, AT_FIRST[s], both);
            }
        }
    }

    /** "if they differ, the sensor is INVALID" */
    private static void twoDiffer() {
        for (int s = 0; s < 18; s++) {
            for (int c = 0; c < 3; c++) {
                int one = 1 << (c + 1) % 3;
                LandingGears x = Ways.plain();
                int both = 7 - (1 << c);
                force(x, s, AT_FIRST[s] == 1 ? both : 1 << c);
                x.run(1);
                Ways.cause("not yet", x, 0);
                force(x, s, one);
                x.run(1);
                seen("INVALID by " + one, x, s, AT_FIRST[s], 0);
                Ways.cause("INVALID by " + one, x, 1);
            }
        }
    }

    /** "and what was seen last stays seen": what it was in the tick before, not what it was at first. */
    private static void whatWasSeenLastStays() {
        for (int last = 0; last <= 1; last++) {
            LandingGears x = Ways.plain();
            force(x, 17, 4);
            x.ground(0);
            x.run(1);
            seen("two are left", x, 17, 0, 3);
            force(x, 17, 3 * last);
            x.run(1);
            seen("seen last", x, 17, last, 3);
            force(x, 17, 1);
            x.run(1);
            seen("INVALID", x, 17, last, 0);
            x.run(20);
            seen("stays", x, 17, last, 0);
        }
    }

    /** "INVALID for good" */
    private static void invalidForGood() {
        LandingGears x = Ways.plain();
        force(x, 15, 6);
        x.run(1);
        force(x, 15, 2);
        x.run(1);
        seen("INVALID", x, 15, 1, 0);
        for (int c = 0; c < 3; c++) {
            x.channel(15, c, 0);
        }
        x.run(1);
        seen("without FAULTS", x, 15, 1, 0);
        x.ground(0);
        x.run(500);
        told("all tell the same", x, 15, 0);
        seen("for good", x, 15, 1, 0);
        force(x, 15, 3);
        x.run(1);
        seen("two of three tell no more", x, 15, 1, 0);
    }

    /** One INVALID sensor leaves the others as they are: they are seen on. */
    private static void invalidOnlyBySensor() {
        LandingGears x = Ways.plain();
        force(x, 16, 6);
        x.run(1);
        force(x, 16, 2);
        x.run(1);
        x.ground(0);
        x.run(1);
        seen("INVALID", x, 16, 1, 0);
        seen("the one before", x, 15, 0, 7);
        seen("the one behind", x, 17, 0, 7);
    }

    /** "(Before the first tick all is seen as it is at first.)" */
    private static void beforeTheFirstTick() {
        LandingGears x = new LandingGears(5, 40, 6, 39);
        x.handle(0);
        x.ground(0);
        for (int s = 0; s < 18; s++) {
            x.channel(s, s % 3, 3);
        }
        Ways.blind(x, 12, 2);
        for (int s = 0; s < 18; s++) {
            seen("before the first tick", x, s, AT_FIRST[s], 7);
        }
        x.run(1);
        seen("in the first tick", x, 0, 0, 6);
        seen("in the first tick", x, 16, 0, 5);
        seen("in the first tick", x, 12, 1, 3);
    }

    /** "each module has for each sensor the channels that are IN" */
    private static void modulesHaveTheirOwnChannels() {
        for (int awake = 0; awake <= 1; awake++) {
            LandingGears x = Ways.plain();
            x.module(1 - awake, 1);
            x.channel(13, 0, 2);
            x.run(1);
            Due.is("OUT for the one", x.sees(awake, 13, 1), 6);
            Due.is("in for the DEAD one", x.sees(1 - awake, 13, 1), 7);
            x.channel(13, 0, 0);
            x.module(1 - awake, 0);
            x.channel(13, 2, 2);
            x.run(1);
            Due.is("INVALID for the one", x.sees(awake, 13, 1), 0);
            Due.is("one OUT for the other", x.sees(1 - awake, 13, 1), 3);
            Due.is("an anomaly of the one", x.about(awake, Ways.CAUSE), 1);
            Due.is("none of the other", x.about(1 - awake, Ways.CAUSE), 0);
        }
    }
}
