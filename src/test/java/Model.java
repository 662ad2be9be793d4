import java.util.ArrayList;
import java.util.List;

/** The document once more, as plainly as can be: the watch looks back over a list of what was. */
final class Model {
    private static final int[] NEXT_ORDERS = {0b00000, 0b00001, 0b00011, 0b00011, 0b00011, 0b00001, 0b00101, 0b00001};

    final int[] length = new int[6];
    final int[] place = new int[6];
    final int[] pressure = new int[5];
    final int[] cylinderStuck = new int[6];
    final int[] valveStuck = new int[5];
    final int[][] fault = new int[18][3];
    final boolean[] truth = new boolean[18];
    final Half[] halves = {new Half(0), new Half(1)};
    final List<int[]> log = new ArrayList<>();
    int handle = 1, level, hold, switchStuck, ground = 7, ticks, scrapes, lights = 1;
    boolean clash;

    Model(int frontDoor, int sideDoor, int frontGear, int sideGear) {
        int[] wanted = {frontDoor, sideDoor, sideDoor, frontGear, sideGear, sideGear};
        for (int k = 0; k < 6; k++) {
            length[k] = wanted[k] >= 5 && wanted[k] <= 40 ? wanted[k] : 15;
            place[k] = k < 3 ? 0 : length[k];
        }
        sense();
        for (Half half : halves) {
            half.seen = truth.clone();
        }
    }

    int handle(int down) {
        int was = handle;
        if (down != was) {
            handle = down;
            hold = 200;
        }
        return was;
    }

    int orders() {
        return halves[0].orders() | halves[1].orders();
    }

    boolean safe() {
        return scrapes == 0 && !clash;
    }

    boolean open(int door) {
        return place[door] == length[door];
    }

    boolean tells(int sensor, int c) {
        int f = fault[sensor][c];
        if (f == 1) return false;
        if (f == 2) return true;
        return f == 3 ? !truth[sensor] : truth[sensor];
    }

    void tick() {
        ticks++;
        int orders = orders();
        clash |= (orders & 6) == 6 || (orders & 24) == 24;
        if (switchStuck == 0) {
            if (hold > 0 && level == 24) hold--;
            else if (hold > 0) level = Math.min(24, level + 3);
            else level = Math.max(0, level - 2);
        }
        boolean powered = pressure[0] == 360;
        for (int v = 0; v < 5; v++) {
            boolean source = v == 0 ? level == 24 : powered;
            boolean fed = (orders & 1 << v) != 0 && source;
            if (valveStuck[v] == 1) fed = false;
            if (valveStuck[v] == 2) fed = v == 0 || powered;
            pressure[v] = fed ? Math.min(360, pressure[v] + 36) : Math.max(0, pressure[v] - 10);
        }
        for (int k = 0; k < 6; k++) {
            boolean out = pressure[k < 3 ? 1 : 3] == 360;
            boolean in = pressure[k < 3 ? 2 : 4] == 360;
            int before = place[k];
            if (cylinderStuck[k] == 0 && out && !in && place[k] < length[k]) place[k]++;
            if (cylinderStuck[k] == 0 && in && !out && place[k] > 0) place[k]--;
            if (k >= 3 && place[k] != before && !open(k - 3)) scrapes++;
        }
        sense();
        lights = 0;
        for (Half half : halves) {
            if (!half.dead) {
                half.tick();
                lights |= half.lights();
            }
        }
    }

    private void sense() {
        truth[0] = handle == 1;
        truth[1] = level == 24;
        truth[2] = pressure[0] == 360;
        for (int k = 0; k < 3; k++) {
            truth[3 + k] = place[k] == 0;
            truth[6 + k] = open(k);
            truth[9 + k] = place[3 + k] == length[3 + k];
            truth[12 + k] = place[3 + k] == 0;
            truth[15 + k] = (ground & 1 << k) != 0;
        }
    }

    boolean unsettled() {
        for (Half half : halves) {
            if (!half.dead && half.cause == 0 && (half.stage != 0 || half.seen[0] != half.goalDown)) return true;
        }
        return false;
    }

    int row(int i, int what) {
        return i < 0 || i >= log.size() || i < log.size() - 64 ? -1 : log.get(i)[what];
    }

    final class Half {
        final int number;
        boolean[] seen;
        final int[] in = new int[18];
        /** What it ordered, and whether it turned, in each of its ticks. */
        final List<Integer> ordered = new ArrayList<>();
        final List<Boolean> turned = new ArrayList<>();
        int stage, age, cause;
        boolean goalDown = true, again, dead;

        Half(int number) {
            this.number = number;
            java.util.Arrays.fill(in, 7);
        }

        int orders() {
            if (dead || cause != 0) return 0;
            return stage == 3 ? NEXT_ORDERS[3] | (goalDown ? 8 : 16) : NEXT_ORDERS[stage];
        }

        int lights() {
            boolean between = false;
            for (int k = 0; k < 3; k++) between |= !seen[9 + k] && !seen[12 + k];
            return (all(9) ? 1 : 0) + (between ? 2 : 0) + (cause != 0 ? 4 : 0);
        }

        void tick() {
            for (int s = 0; s < 18; s++) vote(s);
            age++;
            boolean turn = seen[0] != goalDown;
            goalDown = seen[0];
            int next = turn ? stageByTurn() : stageByAge();
            if (cause == 0 && next != stage) {
                if (stage == 5 && next == 2) again = false;
                stage = next;
                age = 0;
                log.add(new int[] {ticks, number, stage});
            }
            turned.add(turn);
            ordered.add(orders());
            if (cause == 0) {
                cause = firstCause();
                if (cause != 0) log.add(new int[] {ticks, number, 10 + cause});
            }
        }

        private void vote(int s) {
            int yes = 0, no = 0, all = 0;
            for (int c = 0; c < 3; c++) {
                if ((in[s] & 1 << c) != 0) {
                    all++;
                    if (tells(s, c)) yes |= 1 << c;
                    else no |= 1 << c;
                }
            }
            if (all == 0) return;
            if (all == 2 && yes != 0 && no != 0) {
                in[s] = 0;
                return;
            }
            seen[s] = Integer.bitCount(yes) > Integer.bitCount(no);
            in[s] = seen[s] ? yes : no;
        }

        private int stageByTurn() {
            if (stage >= 5) again = true;
            if (stage == 0) return 1;
            if (stage == 3) return 4;
            return stage >= 5 ? 5 : stage;
        }

        private int stageByAge() {
            boolean there = all(goalDown ? 9 : 12);
            boolean borne = seen[15] || seen[16] || seen[17];
            if (stage == 1 && age >= 2) return 2;
            if (stage == 2 && all(6)) return 4;
            if (stage == 3 && there) return 4;
            if (stage == 4 && age >= 1) return !there && (goalDown || !borne) ? 3 : 5;
            if (stage == 5 && age >= 1) return again ? 2 : 6;
            if (stage == 6 && all(3)) return 7;
            return stage == 7 && age >= 10 ? 0 : stage;
        }

        private int firstCause() {
            for (int bits : in) {
                if (bits == 0) return 1;
            }
            int turnedAgo = sinceTurn();
            if (turnedAgo == 10 && !seen[1]) return 2;
            if ((turnedAgo < 0 || turnedAgo >= 216) && seen[1]) return 3;
            if (inAll(0, 30, true) && !seen[2]) return 4;
            if (inAll(0, 100, false) && seen[2]) return 5;
            if (inAll(1, 70, true) && !all(6)) return 6;
            if (inAll(2, 70, true) && !all(3)) return 7;
            if (inAll(3, 70, true) && some(12) || inAll(4, 70, true) && some(9)) return 8;
            if (inAll(3, 100, true) && !all(9) || inAll(4, 100, true) && !all(12)) return 9;
            return 0;
        }

        /** -1 if it never turned. */
        private int sinceTurn() {
            int last = turned.lastIndexOf(true);
            return last < 0 ? -1 : turned.size() - 1 - last;
        }

        /** Whether in this and the ticks before, so many in all, the valve was ordered (or was not). */
        private boolean inAll(int valve, int count, boolean wanted) {
            if (ordered.size() < count) return false;
            for (int i = ordered.size() - count; i < ordered.size(); i++) {
                if (((ordered.get(i) & 1 << valve) != 0) != wanted) return false;
            }
            return true;
        }

        private boolean all(int first) {
            return seen[first] && seen[first + 1] && seen[first + 2];
        }

        private boolean some(int first) {
            return seen[first] || seen[first + 1] || seen[first + 2];
        }
    }
}
