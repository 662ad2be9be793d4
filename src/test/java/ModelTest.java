import java.util.Random;

/**
 * Runs of calls, chosen by fixed seeds, beside the plain model: one look behind each call, and a look at everything in
 * the end. That is 501 calls of an object at most: what one answers behind its 512th is free.
 */
public final class ModelTest {
    private static final int OBJECTS = 20000;
    private static final int CALLS = 70;

    public static void main(String[] args) {
        int[] causes = new int[10];
        for (int seed = 0; seed < OBJECTS && Due.wrong() == 0; seed++) {
            runOne(seed, causes);
        }
        for (int cause = 1; cause < 10; cause++) {
            Due.is("cause " + cause + " was met", causes[cause] > 0, true);
        }
        Due.end();
    }

    private static void runOne(int seed, int[] causes) {
        Random choice = new Random(seed);
        int[] lengths = new int[4];
        for (int i = 0; i < 4; i++) {
            lengths[i] = 3 + choice.nextInt(40);
        }
        LandingGears x = new LandingGears(lengths[0], lengths[1], lengths[2], lengths[3]);
        Model y = new Model(lengths[0], lengths[1], lengths[2], lengths[3]);
        int faultsInHundred = new int[] {0, 2, 10, 30}[seed % 4];
        if (choice.nextInt(3) > 0) {
            x.ground(0);
            y.ground = 0;
        }
        int calls = 1 + choice.nextInt(CALLS);
        for (int i = 0; i < calls; i++) {
            String at = "object " + seed + " call " + i + ": ";
            if (choice.nextInt(100) < faultsInHundred) {
                fault(at, choice, x, y);
            } else {
                move(at, choice, x, y);
            }
            look(at, choice, x, y);
        }
        compare("object " + seed + " in the end: ", x, y);
        causes[y.halves[0].cause]++;
        causes[y.halves[1].cause]++;
    }

    private static void move(String at, Random choice, LandingGears x, Model y) {
        switch (choice.nextInt(6)) {
            case 0: {
                int down = choice.nextInt(2);
                Due.is(at + "handle", x.handle(down), y.handle(down));
                break;
            }
            case 1: {
                int n = 1 + choice.nextInt(200);
                int gone = 0;
                while (gone < n && y.unsettled()) {
                    y.tick();
                    gone++;
                }
                Due.is(at + "settle(" + n + ")", x.settle(n), gone);
                break;
            }
            case 2:
                if (choice.nextInt(4) == 0) {
                    int bits = choice.nextInt(2) * choice.nextInt(8);
                    Due.is(at + "ground", x.ground(bits), y.ground);
                    y.ground = bits;
                }
                break;
            default: {
                int n = 1 + choice.nextInt(choice.nextInt(3) == 0 ? 120 : 5);
                for (int i = 0; i < n; i++) {
                    y.tick();
                }
                Due.is(at + "run(" + n + ")", x.run(n), y.lights);
            }
        }
    }

    private static void fault(String at, Random choice, LandingGears x, Model y) {
        switch (choice.nextInt(8)) {
            case 0: {
                int k = choice.nextInt(6);
                int stuck = choice.nextInt(2);
                Due.is(at + "cylinder", x.cylinder(k, stuck), y.cylinderStuck[k]);
                y.cylinderStuck[k] = stuck;
                break;
            }
            case 1: {
                int k = choice.nextInt(5);
                int stuck = choice.nextInt(3);
                Due.is(at + "valve", x.valve(k, stuck), y.valveStuck[k]);
                y.valveStuck[k] = stuck;
                break;
            }
            case 2: {
                int stuck = choice.nextInt(2);
                Due.is(at + "stick", x.stick(stuck), y.switchStuck);
                y.switchStuck = stuck;
                break;
            }
            case 3:
            case 4: {
                int m = choice.nextInt(2);
                int dead = choice.nextInt(2);
                Due.is(at + "module", x.module(m, dead), y.halves[m].dead ? 1 : 0);
                y.halves[m].dead = dead == 1;
                break;
            }
            default: {
                int s = choice.nextInt(18);
                int c = choice.nextInt(3);
                int f = choice.nextInt(4);
                Due.is(at + "channel", x.channel(s, c, f), y.fault[s][c]);
                y.fault[s][c] = f;
            }
        }
    }

    /** One answer, of any call that changes nothing. */
    private static void look(String at, Random choice, LandingGears x, Model y) {
        int m = choice.nextInt(2);
        int s = choice.nextInt(18);
        switch (choice.nextInt(8)) {
            case 0: comparePlant(at, x, y, s); break;
            case 1: compareAbout(at, x, y, m, s % 7); break;
            case 2: compareSees(at, x, y, m, s, choice.nextInt(2)); break;
            case 3: compareTells(at, x, y, s, s % 3); break;
            case 4: Due.is(at + "lights", x.lights(), y.lights); break;
            case 5: Due.is(at + "logged", x.logged(), y.log.size()); break;
            case 6: compareLog(at, x, y, y.log.size() - choice.nextInt(67), s % 3); break;
            default: Due.is(at + "safe", x.safe(), y.safe());
        }
    }

    private static void compare(String at, LandingGears x, Model y) {
        for (int s = 0; s < 18; s++) {
            comparePlant(at, x, y, s);
            for (int c = 0; c < 3; c++) {
                compareTells(at, x, y, s, c);
            }
            for (int m = 0; m < 2; m++) {
                compareSees(at, x, y, m, s, 0);
                compareSees(at, x, y, m, s, 1);
            }
        }
        for (int i = 0; i < 14; i++) {
            compareAbout(at, x, y, i / 7, i % 7);
        }
        Due.is(at + "lights", x.lights(), y.lights);
        Due.is(at + "logged", x.logged(), y.log.size());
        Due.is(at + "safe", x.safe(), y.safe());
        for (int i = y.log.size() - 65; i <= y.log.size(); i++) {
            for (int what = 0; what < 3; what++) {
                compareLog(at, x, y, i, what);
            }
        }
    }

    private static void comparePlant(String at, LandingGears x, Model y, int what) {
        int[] rest = {y.level, y.hold, y.handle, y.ground, y.ticks, y.scrapes, y.orders()};
        int due = what < 6 ? y.place[what] : what < 11 ? y.pressure[what - 6] : rest[what - 11];
        Due.is(at + "plant " + what, x.plant(what), due);
    }

    private static void compareAbout(String at, LandingGears x, Model y, int m, int what) {
        Model.Half half = y.halves[m];
        int[] due = {half.stage, Math.min(99, half.age), half.goalDown ? 1 : 0, half.orders(), half.cause,
            half.again ? 1 : 0, half.dead ? 1 : 0};
        Due.is(at + "about " + what, x.about(m, what), due[what]);
    }

    private static void compareSees(String at, LandingGears x, Model y, int m, int s, int what) {
        Model.Half half = y.halves[m];
        Due.is(at + "sees " + s, x.sees(m, s, what), what == 1 ? half.in[s] : half.seen[s] ? 1 : 0);
    }

    private static void compareTells(String at, LandingGears x, Model y, int s, int c) {
        Due.is(at + "tells " + s, x.tells(s, c), y.tells(s, c) ? 1 : 0);
    }

    private static void compareLog(String at, LandingGears x, Model y, int i, int what) {
        Due.is(at + "log of " + i, x.log(i, what), y.row(i, what));
    }
}
