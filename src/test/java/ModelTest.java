import java.util.Random;

/** Long runs of calls, chosen by fixed seeds, with every answer beside that of the plain model. */
public final class ModelTest {
    private static final int OBJECTS = 1500;
    private static final int CALLS = 90;

    public static void main(String[] args) {
        int[] causes = new int[10];
        for (int seed = 0; seed < OBJECTS && Due.wrong() == 0; seed++) {
            runOne(seed, causes);
        }
        for (int cause = 1; cause < 10; cause++) {
            Due.is("cause " + cause + " was met", causes[cause] > 0, true);
        }
        Due.end();
    }

    private static void runOne(int seed, int[] causes) {
        Random choice = new Random(seed);
        int[] lengths = new int[4];
        for (int i = 0; i < 4; i++) {
            lengths[i] = 3 + choice.nextInt(40);
        }
        LandingGears x = new LandingGears(lengths[0], lengths[1], lengths[2], lengths[3]);
        Model y = new Model(lengths[0], lengths[1], lengths[2], lengths[3]);
        int faultsInHundred = new int[] {0, 2, 10, 30}[seed % 4];
        if (choice.nextInt(3) > 0) {
            x.ground(0);
            y.ground = 0;
        }
        for (int i = 0; i < CALLS; i++) {
            String at = "object " + seed + " call " + i + ": ";
            if (choice.nextInt(100) < faultsInHundred) {
                fault(at, choice, x, y);
            } else {
                move(at, choice, x, y);
            }
            compare(at, x, y);
            if (Due.wrong() > 0) {
                return;
            }
        }
        causes[y.halves[0].cause]++;
        causes[y.halves[1].cause]++;
    }

    private static void move(String at, Random choice, LandingGears x, Model y) {
        switch (choice.nextInt(6)) {
            case 0: {
                int down = choice.nextInt(2);
                Due.is(at + "handle", x.handle(down), y.handle(down));
                break;
            }
            case 1: {
                int n = 1 + choice.nextInt(200);
                int gone = 0;
                while (gone < n && y.unsettled()) {
                    y.tick();
                    gone++;
                }
                Due.is(at + "settle(" + n + ")", x.settle(n), gone);
                break;
            }
            case 2:
                if (choice.nextInt(4) == 0) {
                    int bits = choice.nextInt(2) * choice.nextInt(8);
                    Due.is(at + "ground", x.ground(bits), y.ground);
                    y.ground = bits;
                }
                break;
            default: {
                int n = 1 + choice.nextInt(choice.nextInt(3) == 0 ? 120 : 5);
                for (int i = 0; i < n; i++) {
                    y.tick();
                }
                Due.is(at + "run(" + n + ")", x.run(n), y.lights);
            }
        }
    }

    private static void fault(String at, Random choice, LandingGears x, Model y) {
        switch (choice.nextInt(8)) {
            case 0: {
                int k = choice.nextInt(6);
                int stuck = choice.nextInt(2);
                Due.is(at + "cylinder", x.cylinder(k, stuck), y.cylinderStuck[k]);
                y.cylinderStuck[k] = stuck;
                break;
            }
            case 1: {
                int k = choice.nextInt(5);
                int stuck = choice.nextInt(3);
                Due.is(at + "valve", x.valve(k, stuck), y.valveStuck[k]);
                y.valveStuck[k] = stuck;
                break;
            }
            case 2: {
                int stuck = choice.nextInt(2);
                Due.is(at + "stick", x.stick(stuck), y.switchStuck);
                y.switchStuck = stuck;
                break;
            }
            case 3:
            case 4: {
                int m = choice.nextInt(2);
                int dead = choice.nextInt(2);
                Due.is(at + "module", x.module(m, dead), y.halves[m].dead ? 1 : 0);
                y.halves[m].dead = dead == 1;
                break;
            }
            default: {
                int s = choice.nextInt(18);
                int c = choice.nextInt(3);
                int f = choice.nextInt(4);
                Due.is(at + "channel", x.channel(s, c, f), y.fault[s][c]);
                y.fault[s][c] = f;
            }
        }
    }

    private static void compare(String at, LandingGears x, Model y) {
        for (int k = 0; k < 6; k++) {
            Due.is(at + "place " + k, x.plant(k), y.place[k]);
        }
        for (int v = 0; v < 5; v++) {
            Due.is(at + "pressure " + v, x.plant(6 + v), y.pressure[v]);
        }
        int[] rest = {y.level, y.hold, y.handle, y.ground, y.ticks, y.scrapes, y.orders()};
        for (int i = 0; i < rest.length; i++) {
            Due.is(at + "plant(" + (11 + i) + ")", x.plant(11 + i), rest[i]);
        }
        for (int m = 0; m < 2; m++) {
            compareModule(at + "module " + m + " ", x, m, y.halves[m]);
        }
        for (int s = 0; s < 18; s++) {
            for (int c = 0; c < 3; c++) {
                Due.is(at + "tells " + s, x.tells(s, c), y.tells(s, c) ? 1 : 0);
            }
        }
        Due.is(at + "lights", x.lights(), y.lights);
        Due.is(at + "logged", x.logged(), y.log.size());
        for (int i = y.log.size() - 66; i <= y.log.size(); i++) {
            for (int what = 0; what < 3; what++) {
                Due.is(at + "log(" + i + ", " + what + ")", x.log(i, what), y.row(i, what));
            }
        }
        Due.is(at + "safe", x.safe(), y.scrapes == 0 && !y.clash);
    }

    private static void compareModule(String at, LandingGears x, int m, Model.Half y) {
        int[] about = {y.stage, Math.min(99, y.age), y.goalDown ? 1 : 0, y.orders(), y.cause,
            y.again ? 1 : 0, y.dead ? 1 : 0};
        for (int what = 0; what < about.length; what++) {
            Due.is(at + "about " + what, x.about(m, what), about[what]);
        }
        for (int s = 0; s < 18; s++) {
            Due.is(at + "sees " + s, x.sees(m, s, 0), y.seen[s] ? 1 : 0);
            Due.is(at + "channels in of " + s, x.sees(m, s, 1), y.in[s]);
        }
    }
}
