import java.util.Arrays;

/**
 * The document once more, written another way than the class and as slow as it likes:
 * moments from the two parts of a direction, and ways by asking all places until nothing gets shorter.
 */
public final class ReferenceCrane {
    private static final int[] NORTHWARD = {10, 7, 0, -7, -10, -7, 0, 7};
    private static final int[] EASTWARD = {0, 7, 10, 7, 0, -7, -10, -7};
    private static final int NO_WAY = 1_000_000;

    private int direction = 0;
    private int reach = 3;
    private int load = 0;
    private int plates = 0;
    private int[] out = new int[4];
    private int[] limit = new int[31];
    private int lifts = 0;
    private int tonsLifted = 0;
    private int movesWithLoad = 0;

    public ReferenceCrane() {
        for (int r = 3; r <= 30; r++) {
            limit[r] = 90 / r;
        }
    }

    private static void argument(boolean fine) {
        if (!fine) {
            throw new IllegalArgumentException();
        }
    }

    private static void index(boolean fine) {
        if (!fine) {
            throw new IndexOutOfBoundsException();
        }
    }

    private static void state(boolean fine) {
        if (!fine) {
            throw new IllegalStateException();
        }
    }

    private int moment(int side, int load, int direction, int reach, int plates, int[] out) {
        int toNorth = NORTHWARD[direction];
        int toEast = EASTWARD[direction];
        int toSide = side == 0 ? toNorth : side == 1 ? toEast : side == 2 ? -toNorth : -toEast;
        int edge = 20 + 10 * out[side];
        int ofLoad = load * (reach * toSide - edge);
        int ofPlates = 2 * plates * (-4 * toSide - edge);
        int ofCrane = 20 * (0 - edge);
        return ofLoad + ofPlates + ofCrane;
    }

    private boolean safe(int load, int direction, int reach, int plates, int[] out) {
        boolean tips = false;
        for (int side = 3; side >= 0; side--) {
            tips |= moment(side, load, direction, reach, plates, out) > 0;
        }
        return !tips && load <= limit[reach];
    }

    private boolean safe(int load, int direction, int reach) {
        return safe(load, direction, reach, plates, out);
    }

    public int setPlates(int plates) {
        argument(0 <= plates && plates <= 12);
        state(safe(load, direction, reach, plates, out));
        int was = this.plates;
        this.plates = plates;
        return was;
    }

    public int setOutrigger(int side, int out) {
        index(0 <= side && side <= 3);
        argument(0 <= out && out <= 6);
        state(load == 0);
        int[] then = this.out.clone();
        then[side] = out;
        state(safe(load, direction, reach, plates, then));
        int was = this.out[side];
        this.out = then;
        return was;
    }

    public int setLimit(int reach, int limit) {
        argument(3 <= reach && reach <= 30);
        argument(0 <= limit && limit <= 60);
        state(reach != this.reach || load <= limit);
        int was = this.limit[reach];
        this.limit[reach] = limit;
        return was;
    }

    public int lift(int load) {
        argument(1 <= load && load <= 60);
        state(this.load == 0);
        state(safe(load, direction, reach));
        this.load = load;
        tonsLifted += load;
        return ++lifts;
    }

    public int setDown() {
        state(load != 0);
        state(safe(0, direction, reach));
        int was = load;
        load = 0;
        return was;
    }

    public int swing(int steps, boolean clockwise) {
        argument(1 <= steps && steps <= 8);
        for (int done = 0; done < steps; done++) {
            int next = clockwise ? (direction == 7 ? 0 : direction + 1) : (direction == 0 ? 7 : direction - 1);
            if (!safe(load, next, reach)) {
                return done;
            }
            direction = next;
            movesWithLoad += load == 0 ? 0 : 1;
        }
        return steps;
    }

    public int stretch(int metres, boolean out) {
        argument(1 <= metres && metres <= 30);
        for (int done = 0; done < metres; done++) {
            int next = out ? reach + 1 : reach - 1;
            if (next == 2 || next == 31 || !safe(load, direction, next)) {
                return done;
            }
            reach = next;
            movesWithLoad += load == 0 ? 0 : 1;
        }
        return metres;
    }

    public int direction() {
        return direction;
    }

    public int reach() {
        return reach;
    }

    public int load() {
        return load;
    }

    public int plates() {
        return plates;
    }

    public int outrigger(int side) {
        index(0 <= side && side <= 3);
        return out[side];
    }

    public int limitAt(int reach) {
        argument(3 <= reach && reach <= 30);
        return limit[reach];
    }

    public int strainOn(int side) {
        index(0 <= side && side <= 3);
        return moment(side, load, direction, reach, plates, out);
    }

    public int weakestSide() {
        int weakest = 3;
        for (int side = 2; side >= 0; side--) {
            if (strainOn(side) >= strainOn(weakest)) {
                weakest = side;
            }
        }
        return weakest;
    }

    public int lifts() {
        return lifts;
    }

    public int tonsLifted() {
        return tonsLifted;
    }

    public int movesWithLoad() {
        return movesWithLoad;
    }

    public boolean isSafeWith(int load, int direction, int reach) {
        place(load, direction, reach);
        return safe(load, direction, reach);
    }

    private static void place(int load, int direction, int reach) {
        index(0 <= direction && direction <= 7);
        argument(0 <= load && load <= 60);
        argument(3 <= reach && reach <= 30);
    }

    public int greatestLoad() {
        int greatest = 0;
        for (int tons = 0; tons <= 60; tons++) {
            greatest = safe(tons, direction, reach) ? tons : greatest;
        }
        return greatest;
    }

    public int farthestReach(int load, int direction) {
        place(load, direction, 3);
        int far = 3;
        while (far <= 30 && safe(load, direction, far)) {
            far++;
        }
        return far == 3 ? -1 : far - 1;
    }

    public int safeDirections(int load, int reach) {
        place(load, 0, reach);
        int count = 0;
        for (int at = 0; at < 8; at++) {
            count += safe(load, at, reach) ? 1 : 0;
        }
        return count;
    }

    public int platesNeeded(int load, int direction, int reach) {
        place(load, direction, reach);
        int fewest = -1;
        for (int hung = 12; hung >= 0; hung--) {
            fewest = safe(load, direction, reach, hung, out) ? hung : fewest;
        }
        return fewest;
    }

    /** The moves to each place, in rows of directions; the reach counts from 0. */
    private int[][] ways(int load, int[] out) {
        int[][] moves = new int[8][31];
        boolean[][] open = new boolean[8][31];
        for (int d = 0; d < 8; d++) {
            Arrays.fill(moves[d], NO_WAY);
            for (int r = 3; r <= 30; r++) {
                open[d][r] = safe(load, d, r, plates, out);
            }
        }
        if (open[direction][reach]) {
            moves[direction][reach] = 0;
        }
        boolean shorter = true;
        while (shorter) {
            shorter = false;
            for (int d = 0; d < 8; d++) {
                for (int r = 3; r <= 30; r++) {
                    int beside = Math.min(moves[(d + 1) % 8][r], moves[(d + 7) % 8][r]);
                    int along = Math.min(moves[d][r - 1], r == 30 ? NO_WAY : moves[d][r + 1]);
                    int by = Math.min(beside, along) + 1;
                    if (open[d][r] && by < moves[d][r]) {
                        moves[d][r] = by;
                        shorter = true;
                    }
                }
            }
        }
        return moves;
    }

    private int reached(int load, int[] out) {
        int count = 0;
        for (int[] row : ways(load, out)) {
            for (int moves : row) {
                count += moves < NO_WAY ? 1 : 0;
            }
        }
        return count;
    }

    public int fewestMoves(int load, int direction, int reach) {
        place(load, direction, reach);
        int moves = ways(load, out)[direction][reach];
        return moves < NO_WAY ? moves : -1;
    }

    public int placesWithin(int load) {
        place(load, 0, 3);
        return reached(load, out);
    }

    public int bestOutrigger(int load) {
        place(load, 0, 3);
        int best = -1;
        int most = 0;
        for (int side = 3; side >= 0; side--) {
            int[] then = out.clone();
            then[side]++;
            int count = then[side] > 6 ? -1 : reached(load, then);
            if (count >= most) {
                best = side;
                most = count;
            }
        }
        return best;
    }

    public double meanLoad() {
        return tonsLifted / (double) Math.max(1, lifts);
    }

    public long digest() {
        long d = 1907;
        int[] first = {direction, reach, load, plates, weakestSide(), lifts, tonsLifted, movesWithLoad, greatestLoad()};
        for (int x : first) {
            d = d * 31 + x;
        }
        for (int side = 0; side < 4; side++) {
            d = d * 31 + out[side];
            d = d * 31 + strainOn(side);
        }
        for (int r = 3; r <= 30; r++) {
            d = d * 31 + limit[r];
            d = d * 31 + safeDirections(5, r);
        }
        return d;
    }
}
