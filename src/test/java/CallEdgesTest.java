/** The edges of promises 1 to 19 and of THE LOG, and "In all calls BAD: a number is not as said." */
public final class CallEdgesTest {
    private static final int NONE = LandingGears.NONE;
    private static final int BAD = LandingGears.BAD;
    private static final int ORDERED = 17;

    private static final String[] CALLS = {"handle", "ground", "channel", "cylinder", "valve", "stick", "module",
        "run", "settle", "plant", "about", "sees", "tells", "log"};
    /** Of each call the least and the greatest of each number; what of log's i is said is never BAD. */
    private static final int[][] RANGES = {{0, 1}, {0, 7}, {0, 17, 0, 2, 0, 3}, {0, 5, 0, 1}, {0, 4, 0, 2}, {0, 1},
        {0, 1, 0, 1}, {1, 1000}, {1, 1000}, {0, 17}, {0, 1, 0, 6}, {0, 1, 0, 17, 0, 1}, {0, 17, 0, 2},
        {Integer.MIN_VALUE, Integer.MAX_VALUE, 0, 2}};

    public static void main(String[] args) {
        badJustOutside();
        badFarOutside();
        notBadAtTheEdges();
        badChangesNothing();
        promise1EachLength();
        promise2WhereItWas();
        promise3WhichItBore();
        promise4WhichItHad();
        promise5WhatItWas();
        promise6WhatItWas();
        promise7WhatItWas();
        promise8WhatItWas();
        promise9OneAndAThousand();
        promise9TicksAddUp();
        promise10NothingToSettle();
        promise10AtMost();
        promise10UpToRest();
        promise10NotForTheDead();
        promise10NotForAnomalies();
        promise10UpToAnAnomaly();
        promise10BothModules();
        promise11EachNumber();
        promise12EachNumber();
        promise13InvalidHasNone();
        promise14BeforeAnyTick();
        promise15AsTheyWere();
        promise16EmptyLog();
        promise16LatestSixtyFour();
        promise16StageBeforeAnomaly();
        promise16ModulesInOrder();
        promise16NoRowForAStageThatStays();
        promise17MoreThanAreKept();
        promise18EachGreatest();
        promise18GoneThrough();
        promise19NoScrape();
        promise19BothAtATicksBeginning();
        promise19OnlyThosePairs();
        fiveHundredAndTwelveCalls();
        Due.end();
    }

    private static int call(LandingGears x, int call, int[] n) {
        switch (call) {
            case 0: return x.handle(n[0]);
            case 1: return x.ground(n[0]);
            case 2: return x.channel(n[0], n[1], n[2]);
            case 3: return x.cylinder(n[0], n[1]);
            case 4: return x.valve(n[0], n[1]);
            case 5: return x.stick(n[0]);
            case 6: return x.module(n[0], n[1]);
            case 7: return x.run(n[0]);
            case 8: return x.settle(n[0]);
            case 9: return x.plant(n[0]);
            case 10: return x.about(n[0], n[1]);
            case 11: return x.sees(n[0], n[1], n[2]);
            case 12: return x.tells(n[0], n[1]);
            default: return x.log(n[0], n[1]);
        }
    }

    private static String name(int call, int[] n) {
        StringBuilder text = new StringBuilder(CALLS[call]).append('(');
        for (int i = 0; i < n.length; i++) {
            text.append(i > 0 ? ", " : "").append(n[i]);
        }
        return text.append(')').toString();
    }

    /** All numbers of the call at their least (log's at 0), or at their greatest. */
    private static int[] numbers(int call, boolean greatest) {
        int[] range = RANGES[call];
        int[] n = new int[range.length / 2];
        for (int i = 0; i < n.length; i++) {
            n[i] = greatest ? range[2 * i + 1] : range[2 * i] == Integer.MIN_VALUE ? 0 : range[2 * i];
        }
        return n;
    }

    /** The call with one number out of its range, for each number and both ways, by so much. */
    private static void bad(LandingGears x, int call, long by) {
        int[] range = RANGES[call];
        for (int i = 0; i < range.length / 2; i++) {
            if (range[2 * i] == Integer.MIN_VALUE) {
                continue;
            }
            for (int other = 0; other <= 1; other++) {
                int[] n = numbers(call, other == 1);
                n[i] = (int) Math.max(Integer.MIN_VALUE, range[2 * i] - by);
                Due.is(name(call, n), call(x, call, n), BAD);
                n[i] = (int) Math.min(Integer.MAX_VALUE, range[2 * i + 1] + by);
                Due.is(name(call, n), call(x, call, n), BAD);
            }
        }
    }

    /** At first, under way, with an ANOMALY, and with DEAD modules. */
    private static LandingGears[] states() {
        LandingGears anomaly = Ways.goingUp();
        anomaly.cylinder(0, 1);
        Ways.to(anomaly, 80);
        LandingGears dead = Ways.goingUpTo(50);
        dead.module(0, 1);
        dead.module(1, 1);
        return new LandingGears[] {Ways.plain(), Ways.goingUpTo(50), Ways.goingUpTo(102), anomaly, dead};
    }

    private static void badJustOutside() {
        for (int call = 0; call < CALLS.length; call++) {
            for (LandingGears x : states()) {
                bad(x, call, 1);
            }
        }
    }

    private static void badFarOutside() {
        long[] far = {2, 7, 8, 16, 32, 100, 256, 65536, 1L << 31, 1L << 32};
        for (int call = 0; call < CALLS.length; call++) {
            LandingGears x = Ways.goingUpTo(30);
            for (long by : far) {
                bad(x, call, by);
            }
        }
    }

    private static void notBadAtTheEdges() {
        for (int call = 0; call < CALLS.length; call++) {
            for (int greatest = 0; greatest <= 1; greatest++) {
                for (LandingGears x : states()) {
                    int[] n = numbers(call, greatest == 1);
                    Due.is(name(call, n) + " is not BAD", call(x, call, n) != BAD, true);
                }
            }
        }
    }

    /** A call that is BAD leaves all as it was, at once and for what comes. */
    private static void badChangesNothing() {
        for (int call = 0; call < CALLS.length; call++) {
            for (int later = 0; later <= 30; later += 30) {
                LandingGears[] one = states();
                LandingGears[] other = states();
                for (int i = 0; i < one.length; i++) {
                    bad(one[i], call, 1);
                    if (later > 0) {
                        one[i].run(later);
                        other[i].run(later);
                    }
                    Ways.same(CALLS[call] + " BAD in state " + i + ", " + later + " ticks later", one[i], other[i]);
                }
            }
        }
    }

    /** "Lengths (5 .. 40; others count as 15): of the front door, of both others, of the front gear, of both others." */
    private static void promise1EachLength() {
        int[][] wantedAndUsed = {{5, 5}, {40, 40}, {4, 15}, {41, 15}, {0, 15}, {-1, 15}, {-5, 15}, {6, 6}, {39, 39},
            {Integer.MIN_VALUE, 15}, {Integer.MAX_VALUE, 15}};
        for (int which = 0; which < 4; which++) {
            for (int[] pair : wantedAndUsed) {
                int[] n = {20, 20, 20, 20};
                n[which] = pair[0];
                LandingGears x = new LandingGears(n[0], n[1], n[2], n[3]);
                n[which] = pair[1];
                Due.is("front gear", x.plant(3), n[2]);
                Due.is("left gear", x.plant(4), n[3]);
                Due.is("right gear", x.plant(5), n[3]);
                x.ground(0);
                x.handle(0);
                x.run(26);
                for (int i = 1; i <= 40; i++) {
                    x.run(1);
                    for (int k = 0; k < 3 && x.about(0, 0) == 2; k++) {
                        Due.is("door " + k, x.plant(k), Math.min(i, k == 0 ? n[0] : n[1]));
                    }
                }
                x.settle(1000);
                Due.is("bound", x.bound(), 80 + 2 * Math.max(n[0], n[1]) + Math.max(n[2], n[3]));
                Due.is("UP", x.plant(3) + x.plant(4) + x.plant(5), 0);
            }
        }
    }

    /** "The handle goes up (0) or down (1): where it was." */
    private static void promise2WhereItWas() {
        LandingGears x = Ways.plain();
        int[][] moves = {{1, 1}, {0, 1}, {0, 0}, {1, 0}, {1, 1}, {0, 1}};
        for (int[] row : moves) {
            Due.is("handle(" + row[0] + ")", x.handle(row[0]), row[1]);
            Due.is("where it is", x.plant(13), row[0]);
        }
        Due.is("handle(2)", x.handle(2), BAD);
        Due.is("handle(-1)", x.handle(-1), BAD);
        Due.is("where it was before", x.handle(1), 0);
    }

    /** "THE GROUND bears these gears (0 .. 7): which it bore." */
    private static void promise3WhichItBore() {
        LandingGears x = Ways.plain();
        int was = 7;
        for (int bits : new int[] {7, 0, 0, 7, 1, 2, 4, 3, 5, 6}) {
            Due.is("ground(" + bits + ")", x.ground(bits), was);
            was = bits;
        }
        Due.is("ground(8)", x.ground(8), BAD);
        Due.is("ground(-1)", x.ground(-1), BAD);
        Due.is("which it bore before", x.ground(0), 6);
    }

    /** "A channel of a sensor has a FAULT (1 .. 3) or none (0): which it had." */
    private static void promise4WhichItHad() {
        int[][] channels = {{0, 0}, {0, 2}, {17, 0}, {17, 2}, {9, 1}};
        for (int[] row : channels) {
            LandingGears x = Ways.plain();
            int was = 0;
            for (int fault : new int[] {0, 1, 1, 2, 3, 0, 3, 2, 1, 0}) {
                Due.is("channel " + row[0] + ", " + row[1], x.channel(row[0], row[1], fault), was);
                was = fault;
            }
            x.channel(row[0], row[1], 2);
            Due.is("a FAULT of 4", x.channel(row[0], row[1], 4), BAD);
            Due.is("a FAULT of -1", x.channel(row[0], row[1], -1), BAD);
            for (int s = 0; s < 18; s++) {
                for (int c = 0; c < 3; c++) {
                    Due.is("others have none", x.channel(s, c, 0), s == row[0] && c == row[1] ? 2 : 0);
                }
            }
        }
    }

    /** "A cylinder is STUCK (1) or not (0): what it was." */
    private static void promise5WhatItWas() {
        for (int k = 0; k < 6; k++) {
            LandingGears x = Ways.plain();
            int was = 0;
            for (int stuck : new int[] {0, 1, 1, 0, 1}) {
                Due.is("cylinder " + k, x.cylinder(k, stuck), was);
                was = stuck;
            }
            Due.is("STUCK 2", x.cylinder(k, 2), BAD);
            for (int other = 0; other < 6; other++) {
                Due.is("the others are not", x.cylinder(other, 0), other == k ? 1 : 0);
            }
        }
    }

    /** "A valve is STUCK (1, 2) or not (0): what it was." */
    private static void promise6WhatItWas() {
        for (int k = 0; k < 5; k++) {
            LandingGears x = Ways.plain();
            int was = 0;
            for (int stuck : new int[] {0, 1, 1, 2, 2, 0, 2, 1, 0, 2}) {
                Due.is("valve " + k, x.valve(k, stuck), was);
                was = stuck;
            }
            Due.is("STUCK 3", x.valve(k, 3), BAD);
            for (int other = 0; other < 5; other++) {
                Due.is("the others are not", x.valve(other, 0), other == k ? 2 : 0);
            }
        }
    }

    /** "The switch is STUCK (1) or not (0): what it was." */
    private static void promise7WhatItWas() {
        LandingGears x = Ways.plain();
        int was = 0;
        for (int stuck : new int[] {0, 1, 1, 0, 1}) {
            Due.is("stick(" + stuck + ")", x.stick(stuck), was);
            was = stuck;
        }
        Due.is("stick(2)", x.stick(2), BAD);
        Due.is("stick(-1)", x.stick(-1), BAD);
        Due.is("what it was before", x.stick(0), 1);
    }

    /** "A module is DEAD (1) or not (0): what it was." */
    private static void promise8WhatItWas() {
        for (int m = 0; m < 2; m++) {
            LandingGears x = Ways.plain();
            int was = 0;
            for (int dead : new int[] {0, 1, 1, 0, 1}) {
                Due.is("module " + m, x.module(m, dead), was);
                was = dead;
            }
            Due.is("DEAD 2", x.module(m, 2), BAD);
            Due.is("the other one is not", x.module(1 - m, 0), 0);
            Due.is("what it was before", x.module(m, 0), 1);
        }
    }

    /** "n ticks (1 .. 1000): the LIGHTS behind them." */
    private static void promise9OneAndAThousand() {
        LandingGears x = Ways.goingUp();
        Due.is("run(1)", x.run(1), 1);
        Due.is("one tick", x.plant(15), 1);
        Due.is("run(50)", x.run(50), 1);
        Due.is("run(1) into the moving", x.run(1), 2);
        Due.is("run(1000)", x.run(1000), 0);
        Due.is("a thousand ticks", x.plant(15), 1052);
        Due.is("run(0)", x.run(0), BAD);
        Due.is("run(1001)", x.run(1001), BAD);
        Due.is("no ticks", x.plant(15), 1052);
    }

    private static void promise9TicksAddUp() {
        int[] cuts = {1, 2, 41, 52, 102, 999};
        for (int cut : cuts) {
            LandingGears x = Ways.goingUp();
            LandingGears y = Ways.goingUp();
            x.run(1000);
            y.run(cut);
            y.run(1000 - cut);
            Ways.same("1000 and " + cut + " with the rest", x, y);
        }
        LandingGears x = Ways.goingUp();
        LandingGears y = Ways.goingUp();
        x.run(95);
        for (int i = 0; i < 95; i++) {
            y.run(1);
        }
        Ways.same("95 and one by one", x, y);
    }

    /** "Ticks, as long as some module ... is not at REST": none, and nothing is changed. */
    private static void promise10NothingToSettle() {
        LandingGears x = Ways.goingUp();
        LandingGears y = Ways.goingUp();
        Due.is("at REST", x.settle(1), 0);
        Due.is("at REST", x.settle(1000), 0);
        Ways.same("no tick", x, y);
    }

    /** "n (1 .. 1000) at most: how many." */
    private static void promise10AtMost() {
        for (int n : new int[] {1, 2, 100, 101, 102, 1000}) {
            LandingGears x = Ways.goingUpTo(1);
            Due.is("settle(" + n + ")", x.settle(n), Math.min(n, 101));
            Due.is("so many ticks", x.plant(15), 1 + Math.min(n, 101));
            Due.is("at REST", x.about(0, 0) == 0, n >= 101);
            LandingGears y = Ways.goingUpTo(1 + Math.min(n, 101));
            Ways.same("the same ticks as of run", x, y);
        }
        LandingGears x = Ways.goingUpTo(1);
        Due.is("settle(0)", x.settle(0), BAD);
        Due.is("settle(1001)", x.settle(1001), BAD);
        Due.is("no ticks", x.plant(15), 1);
    }

    private static void promise10UpToRest() {
        LandingGears x = Ways.goingUpTo(101);
        Due.is("the last tick", x.settle(1000), 1);
        Due.is("REST", x.about(0, 0) + x.about(1, 0), 0);
        Due.is("no further one", x.settle(1000), 0);
        x.handle(1);
        Due.is("a move that is not seen yet", x.settle(1000), 0);
        x.run(1);
        Due.is("WAKE", x.settle(1), 1);
    }

    /** "some module that is not DEAD" */
    private static void promise10NotForTheDead() {
        for (int m = 0; m < 2; m++) {
            LandingGears x = Ways.goingUpTo(30);
            x.module(m, 1);
            Due.is("one that is not DEAD", x.settle(1000), 72);
            Due.is("the DEAD one is where it was", x.about(m, 0), 2);
            Due.is("and is not waited for", x.settle(1000), 0);
            x.module(1 - m, 1);
            x.module(m, 0);
            Due.is("not DEAD any more", x.settle(1), 1);
        }
        LandingGears both = Ways.goingUpTo(30);
        both.module(0, 1);
        both.module(1, 1);
        Due.is("both DEAD", both.settle(1000), 0);
    }

    /** "and has no ANOMALY" */
    private static void promise10NotForAnomalies() {
        LandingGears x = Ways.goingUp();
        x.cylinder(0, 1);
        Ways.to(x, 72);
        Due.is("OPENING with an ANOMALY", x.about(0, 0) * 10 + x.about(0, 4), 26);
        Due.is("not waited for", x.settle(1000), 0);
        x.handle(1);
        Due.is("nor for a handle elsewhere", x.settle(1000), 0);
        Due.is("no ticks", x.plant(15), 72);
    }

    private static void promise10UpToAnAnomaly() {
        LandingGears x = Ways.goingUp();
        x.cylinder(0, 1);
        x.run(1);
        Due.is("up to the ANOMALY of both", x.settle(1000), 71);
        Due.is("the ANOMALY", x.about(0, 4) * 10 + x.about(1, 4), 66);
    }

    /** "some module": as long as one of both is not at REST. */
    private static void promise10BothModules() {
        for (int m = 0; m < 2; m++) {
            LandingGears x = Ways.goingUpTo(95);
            x.module(m, 1);
            Ways.to(x, 99);
            x.module(m, 0);
            Due.is("up to the REST of the later one", x.settle(1000), 7);
            Due.is("the later one has just come to it", x.about(m, 0) * 10 + x.about(m, 1), 0);
            Due.is("the other one before", x.about(1 - m, 0) * 10 + x.about(1 - m, 1), 4);
        }
    }

    /** "what = 0 .. 5 the PLACE of a cylinder, 6 .. 10 the PRESSURE of a valve, 11 ... 17": each by itself. */
    private static void promise11EachNumber() {
        LandingGears x = new LandingGears(5, 6, 7, 8);
        x.ground(5);
        for (int k = 0; k < 6; k++) {
            x.cylinder(k, k % 2);
        }
        x.valve(0, 2);
        x.valve(2, 2);
        x.handle(0);
        x.run(15);
        int[] due = {0, 0, 0, 7, 8, 8, 360, 180, 180, 0, 0, 24, 193, 0, 5, 15, 0, 3};
        for (int what = 0; what < due.length; what++) {
            Due.is("plant(" + what + ")", x.plant(what), due[what]);
        }
        Due.is("plant(18)", x.plant(18), BAD);
        Due.is("plant(-1)", x.plant(-1), BAD);
    }

    private static void promise12EachNumber() {
        LandingGears x = Ways.goingUpTo(70);
        x.handle(1);
        x.run(1);
        int[] due = {5, 0, 1, 1, 0, 1, 0};
        for (int m = 0; m < 2; m++) {
            for (int what = 0; what < due.length; what++) {
                Due.is("about(" + m + ", " + what + ")", x.about(m, what), due[what]);
            }
            Due.is("about(m, 7)", x.about(m, 7), BAD);
            Due.is("about(m, -1)", x.about(m, -1), BAD);
        }
        x.module(1, 1);
        Due.is("orders of one that is DEAD", x.about(1, 3), 0);
        Due.is("DEAD", x.about(1, 6), 1);
        Due.is("its stage still", x.about(1, 0), 5);
        Due.is("AGAIN still", x.about(1, 5), 1);
        Due.is("orders of the other", x.about(0, 3), 1);
    }

    /** "its channels that are IN, as bits (1; 0 when it is INVALID)" */
    private static void promise13InvalidHasNone() {
        LandingGears x = Ways.plain();
        int[] in = {7, 6, 0};
        for (int c = 0; c < 3; c++) {
            Due.is("channels in", x.sees(0, 9, 1), in[c]);
            Due.is("seen", x.sees(0, 9, 0), 1);
            x.channel(9, c, 1);
            x.run(1);
        }
        Due.is("INVALID still", x.sees(0, 9, 1), 0);
    }

    /** "by what was true behind the latest tick (as at first before any)" */
    private static void promise14BeforeAnyTick() {
        LandingGears x = Ways.goingUp();
        int[] atFirst = {1, 0, 0, 1, 1, 1, 0, 0, 0, 1, 1, 1, 0, 0, 0, 1, 1, 1};
        for (int s = 0; s < 18; s++) {
            Due.is("tells(" + s + ", 0)", x.tells(s, 0), atFirst[s]);
            x.channel(s, 0, 3);
            Due.is("the contrary", x.tells(s, 0), 1 - atFirst[s]);
            Due.is("another channel", x.tells(s, 2), atFirst[s]);
        }
    }

    /** "THE LIGHTS, as bits, as they were behind the latest tick (1 before any)." */
    private static void promise15AsTheyWere() {
        LandingGears x = Ways.goingUp();
        Ways.blind(x, 9, 1);
        x.module(0, 1);
        x.module(1, 1);
        Due.is("before any tick", x.lights(), 1);
        x.run(1);
        Due.is("none of DEAD ones", x.lights(), 0);
        x.module(0, 0);
        x.module(1, 0);
        Due.is("as they were", x.lights(), 0);
        Due.is("run answers the same", x.run(1), x.lights());
        Due.is("one not seen DOWN", x.lights(), 2);
        Ways.blind(x, 9, 0);
        x.channel(17, 0, 3);
        Due.is("as they were", x.lights(), 2);
        x.settle(2);
        Due.is("behind settle's ticks", x.lights(), 1);
    }

    /** "Of row i ... from 0 on ... NONE: it is not kept, or there is none. BAD (not of i)." */
    private static void promise16EmptyLog() {
        LandingGears x = Ways.plain();
        int[] rows = {0, 1, 63, 64, -1, -64, Integer.MIN_VALUE, Integer.MAX_VALUE};
        for (int run = 0; run <= 1; run++) {
            for (int i : rows) {
                for (int what = 0; what <= 2; what++) {
                    Due.is("no row", x.log(i, what), NONE);
                }
                Due.is("what = 3", x.log(i, 3), BAD);
                Due.is("what = -1", x.log(i, -1), BAD);
            }
            Due.is("none had", x.logged(), 0);
            x.run(90);
        }
        LandingGears one = Ways.goingUp();
        one.module(1, 1);
        one.run(1);
        Due.is("one row", one.log(0, 0) * 100 + one.log(0, 1) * 10 + one.log(0, 2), 101);
        Due.is("the row behind it", one.log(1, 0), NONE);
        Due.is("the row before it", one.log(-1, 0), NONE);
    }

    /** One row a stage, of the module that is not DEAD: nine on the way up, nine on the way down. */
    private static LandingGears withRows(int rows) {
        LandingGears x = Ways.goingUp();
        x.module(1, 1);
        int down = 0;
        x.run(1);
        while (x.logged() + 9 <= rows) {
            x.settle(1000);
            down = 1 - down;
            x.handle(down);
            x.run(1);
        }
        for (int i = 0; i < 110 && x.logged() < rows; i++) {
            x.run(1);
        }
        Due.is("rows wanted", x.logged(), rows);
        return x;
    }

    /** "The latest 64 are kept." */
    private static void promise16LatestSixtyFour() {
        int[] stages = {1, 2, 4, 3, 4, 5, 6, 7, 0};
        for (int rows : new int[] {1, 8, 63, 64, 65, 66, 127, 128, 129, 130, 192, 193}) {
            LandingGears x = withRows(rows);
            int before = 0;
            for (int i = 0; i < rows; i++) {
                if (i < rows - 64) {
                    Due.is("row " + i + " of " + rows + " is not kept", x.log(i, i % 3), NONE);
                } else {
                    Due.is("row " + i + " of " + rows + ": stage", x.log(i, 2), stages[i % 9]);
                    Due.is("row " + i + " of " + rows + ": tick", x.log(i, 0) > before, true);
                    before = x.log(i, 0);
                }
            }
            Due.is("the latest row's tick", before, x.plant(15));
            Due.is("there is none", x.log(rows, 0), NONE);
            Due.is("there is none", x.log(-1, 0), NONE);
            Due.is("what = 3 of a row that is not kept", x.log(0, 3), BAD);
            Due.is("the latest row's module", x.log(rows - 1, 1), 0);
        }
        LandingGears x = withRows(64);
        Due.is("the first of 64", x.log(0, 0), 1);
        LandingGears y = withRows(65);
        Due.is("the first of 65", y.log(0, 0), NONE);
        Due.is("the second of 65", y.log(1, 0), 3);
    }

    /** "(What a module comes to in one tick: its stage before its ANOMALY.)" */
    private static void promise16StageBeforeAnomaly() {
        LandingGears x = Ways.goingUp();
        x.channel(17, 0, 2);
        Ways.to(x, 2);
        x.channel(17, 1, 2);
        x.run(1);
        int[][] due = {{1, 0, 1}, {1, 1, 1}, {3, 0, 2}, {3, 0, 11}, {3, 1, 2}, {3, 1, 11}};
        Due.is("rows", x.logged(), due.length);
        for (int i = 0; i < due.length; i++) {
            for (int what = 0; what < 3; what++) {
                Due.is("log(" + i + ", " + what + ")", x.log(i, what), due[i][what]);
            }
        }
        Due.is("no row behind them", x.log(6, 0), NONE);
    }

    /** "then module 0, module 1": so their rows; each module's alone while the other is DEAD. */
    private static void promise16ModulesInOrder() {
        LandingGears x = Ways.goingUp();
        x.module(0, 1);
        x.run(1);
        Due.is("module 1 alone", x.log(0, 1), 1);
        x.module(0, 0);
        x.run(1);
        Due.is("module 0 later", x.log(1, 1), 0);
        Due.is("its tick", x.log(1, 0), 2);
        LandingGears y = Ways.goingUpTo(1);
        Due.is("module 0 first", y.log(0, 1), 0);
        Due.is("module 1 behind it", y.log(1, 1), 1);
        Due.is("in one tick", y.log(1, 0), 1);
    }

    /** "a row for each stage that a module comes to": none for a turn that leaves the stage. */
    private static void promise16NoRowForAStageThatStays() {
        for (int tick : new int[] {1, 20, 41, 66, 67}) {
            LandingGears x = Ways.goingUpTo(tick);
            int rows = x.logged();
            x.handle(1);
            x.run(1);
            Due.is("a turn behind " + tick, x.logged(), rows);
        }
        for (int tick : new int[] {50, 70, 95, 110}) {
            LandingGears x = Ways.goingUpTo(tick);
            int rows = x.logged();
            x.handle(1);
            x.run(1);
            Due.is("a turn behind " + tick, x.logged(), rows + 2);
        }
    }

    /** "How many rows THE LOG had.": more than it keeps. */
    private static void promise17MoreThanAreKept() {
        for (int rows : new int[] {1, 63, 64, 65, 128, 129, 200}) {
            Due.is("rows had", withRows(rows).logged(), rows);
        }
        Due.is("none", Ways.plain().logged(), 0);
    }

    /** "80, twice the greatest length of a door, and the greatest of a gear, together" */
    private static void promise18EachGreatest() {
        int[][] due = {{5, 5, 5, 5, 95}, {6, 5, 5, 5, 97}, {5, 6, 5, 5, 97}, {5, 5, 6, 5, 96}, {5, 5, 5, 6, 96},
            {40, 40, 40, 40, 200}, {40, 5, 40, 5, 200}, {5, 40, 5, 40, 200}, {39, 40, 40, 39, 200}, {41, 5, 5, 5, 115},
            {5, 4, 5, 5, 115}, {5, 5, 41, 5, 105}, {5, 5, 5, 4, 105}};
        for (int[] row : due) {
            LandingGears x = new LandingGears(row[0], row[1], row[2], row[3]);
            Due.is("bound", x.bound(), row[4]);
            x.handle(0);
            x.run(100);
            Due.is("bound later", x.bound(), row[4]);
        }
    }

    /** "in so many ticks, from REST, ... a move of the handle ... is gone through, to REST": shortest and longest, borne or not. */
    private static void promise18GoneThrough() {
        int[] edges = {5, 40};
        for (int i = 0; i < 16 * 8; i++) {
            LandingGears x = new LandingGears(edges[i & 1], edges[i >> 1 & 1], edges[i >> 2 & 1], edges[i >> 3 & 1]);
            x.ground(i >> 4);
            for (int move = 0; move < 6; move++) {
                x.handle(move % 2);
                x.run(1);
                int took = 1 + x.settle(1000);
                Due.is(took + " ticks in bound " + x.bound(), took <= x.bound(), true);
                Ways.stage("to REST", x, 0, 0);
                Ways.cause("without ANOMALIES", x, 0);
                Due.is("where the goal wants them", x.plant(3), move % 2 == 1 || i >> 4 != 0 ? edges[i >> 2 & 1] : 0);
                if (move >= 3) {
                    x.run(100 * move);
                }
            }
            Due.is("safe", x.safe(), true);
        }
    }

    /** "Whether there was no SCRAPE" */
    private static void promise19NoScrape() {
        LandingGears x = Ways.goingUp();
        x.cylinder(4, 1);
        x.cylinder(5, 1);
        x.valve(4, 2);
        x.run(26);
        Due.is("none", x.safe(), true);
        x.run(1);
        Due.is("one", x.plant(16), 1);
        Due.is("one is enough", x.safe(), false);
        x.cylinder(3, 1);
        x.run(1000);
        Due.is("for good", x.safe(), false);
    }

    /** "and at no tick's beginning both of OPEN and CLOSE, or of EXTEND and RETRACT, were ordered" */
    private static void promise19BothAtATicksBeginning() {
        for (int m = 0; m < 2; m++) {
            LandingGears doors = Ways.goingUpTo(30);
            doors.module(m, 1);
            Ways.to(doors, 70);
            doors.module(m, 0);
            Due.is("OPEN and CLOSE", doors.plant(ORDERED), 7);
            Due.is("ordered between two ticks", doors.safe(), true);
            doors.run(1);
            Due.is("at a tick's beginning", doors.safe(), false);
            doors.run(500);
            Due.is("for good", doors.safe(), false);
            Due.is("no SCRAPE", doors.plant(16), 0);

            LandingGears gears = Ways.goingUpTo(45);
            gears.module(m, 1);
            gears.handle(1);
            Ways.to(gears, 46);
            Due.is("HELD", gears.plant(ORDERED), 3);
            gears.handle(0);
            gears.run(1);
            gears.module(m, 0);
            Due.is("OPEN and RETRACT of the one", gears.about(m, 3), 19);
            gears.run(1);
            Due.is("no EXTEND", gears.safe(), true);

            LandingGears both = Ways.goingUpTo(60);
            both.module(m, 1);
            both.handle(1);
            both.run(2);
            both.module(m, 0);
            Due.is("EXTEND and RETRACT", both.plant(ORDERED), 27);
            both.module(m, 1);
            both.run(1);
            Due.is("DEAD at the tick's beginning", both.safe(), true);
            both.module(m, 0);
            both.run(1);
            Due.is("at a tick's beginning", both.safe(), false);
            Due.is("no SCRAPE", both.plant(16), 0);
        }
        LandingGears behind = Ways.goingUpTo(50);
        behind.module(0, 1);
        Ways.to(behind, 68);
        Due.is("CLOSE is ordered behind the tick", behind.plant(ORDERED), 5);
        behind.module(0, 0);
        Due.is("OPEN, RETRACT and CLOSE", behind.plant(ORDERED), 23);
        Due.is("safe up to the next tick", behind.safe(), true);
    }

    /** OPEN with EXTEND or RETRACT, CLOSE with RETRACT of another module: these pairs are none of those. */
    private static void promise19OnlyThosePairs() {
        LandingGears x = Ways.goingUpTo(60);
        Due.is("OPEN and RETRACT", x.plant(ORDERED), 19);
        x.run(1);
        Due.is("safe", x.safe(), true);
        LandingGears y = Ways.movingDown();
        Due.is("OPEN and EXTEND", y.plant(ORDERED), 11);
        y.run(1);
        Due.is("safe", y.safe(), true);
        LandingGears stuck = Ways.goingUp();
        for (int v = 1; v < 5; v++) {
            stuck.valve(v, 2);
        }
        Ways.to(stuck, 40);
        Due.is("all pressures at 360", stuck.plant(7) + stuck.plant(8) + stuck.plant(9) + stuck.plant(10), 1440);
        Due.is("pressures are not orders", stuck.safe(), true);
    }

    /** "An object is used for at most 512 calls": up to the last one it does as it should. */
    private static void fiveHundredAndTwelveCalls() {
        LandingGears x = Ways.plain();
        for (int i = 0; i < 506; i++) {
            x.run(1000);
        }
        Due.is("lights", x.run(1000), 1);
        Due.is("ticks", x.plant(15), 507000);
        Due.is("age", x.about(0, 1), 99);
        Due.is("stage", x.about(1, 0), 0);
        Due.is("rows", x.logged(), 0);
        Due.is("safe", x.safe(), true);

        LandingGears y = Ways.goingUp();
        for (int i = 0; i < 250; i++) {
            y.run(1000);
            y.handle((i + 1) % 2);
        }
        Due.is("lights", y.run(1000), 0);
        Due.is("ticks", y.plant(15), 251000);
        Due.is("rows", y.logged(), 251 * 18);
        Due.is("the latest row's tick", y.log(251 * 18 - 1, 0), 250102);
        Due.is("the first row kept", y.log(251 * 18 - 64, 0) > 0, true);
        Due.is("the row before it", y.log(251 * 18 - 65, 0), NONE);
        Due.is("no row behind", y.log(251 * 18, 0), NONE);
        Due.is("cause", y.about(0, 4), 0);
        Due.is("safe", y.safe(), true);
    }
}
