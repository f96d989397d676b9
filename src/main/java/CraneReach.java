/** A crane with counterweights. */
public final class CraneReach {
    private static final int DIRECTIONS = 8;
    private static final int SIDES = 4;
    private static final int LEAST_REACH = 3;
    private static final int GREATEST_REACH = 30;
    private static final int REACHES = GREATEST_REACH - LEAST_REACH + 1;
    private static final int PLACES = DIRECTIONS * REACHES;
    private static final int MOST_PLATES = 12;
    private static final int FARTHEST_OUT = 6;
    private static final int GREATEST_LOAD = 60;
    private static final int GREATEST_LIMIT = 60;
    private static final int NONE = -1;

    private final Rig rig = new Rig();
    // Made once and used again, so that asking what would be makes no new objects.
    private final Rig trial = new Rig();
    private final Plan plan = new Plan();

    private int direction;
    private int reach = LEAST_REACH;
    private int load;
    private int lifts;
    private int tonsLifted;
    private int movesWithLoad;

    public CraneReach() {
    }

    // ---- the crane

    public int setPlates(int plates) throws IllegalArgumentException, IllegalStateException {
        if (!isWithin(plates, 0, MOST_PLATES)) {
            throw new IllegalArgumentException("plates must be 0 to 12");
        }
        trial.becomeLike(rig);
        trial.plates = plates;
        requireSafe(trial, load);
        int before = rig.plates;
        rig.plates = plates;
        return before;
    }

    public int setOutrigger(int side, int out)
            throws IndexOutOfBoundsException, IllegalArgumentException, IllegalStateException {
        requireSide(side);
        if (!isWithin(out, 0, FARTHEST_OUT)) {
            throw new IllegalArgumentException("out must be 0 to 6");
        }
        requireNoLoad();
        trial.becomeLike(rig);
        trial.draw(side, out);
        requireSafe(trial, load);
        int before = rig.drawn(side);
        rig.draw(side, out);
        return before;
    }

    public int setLimit(int reach, int limit) throws IllegalArgumentException, IllegalStateException {
        requireReach(reach);
        if (!isWithin(limit, 0, GREATEST_LIMIT)) {
            throw new IllegalArgumentException("limit must be 0 to 60");
        }
        trial.becomeLike(rig);
        trial.allow(reach, limit);
        requireSafe(trial, load);
        int before = rig.allowed(reach);
        rig.allow(reach, limit);
        return before;
    }

    // ---- loads and moves

    public int lift(int load) throws IllegalArgumentException, IllegalStateException {
        if (!isWithin(load, 1, GREATEST_LOAD)) {
            throw new IllegalArgumentException("load must be 1 to 60");
        }
        requireNoLoad();
        requireSafe(rig, load);
        this.load = load;
        lifts++;
        tonsLifted += load;
        return lifts;
    }

    public int setDown() throws IllegalStateException {
        if (load == 0) {
            throw new IllegalStateException("no load hangs on the boom");
        }
        requireSafe(rig, 0);
        int before = load;
        load = 0;
        return before;
    }

    public int swing(int steps, boolean clockwise) throws IllegalArgumentException {
        if (!isWithin(steps, 1, DIRECTIONS)) {
            throw new IllegalArgumentException("steps must be 1 to 8");
        }
        int turn = clockwise ? 1 : -1;
        int moved = 0;
        while (moved < steps && rig.isSafe(load, turned(direction, turn), reach)) {
            direction = turned(direction, turn);
            moved++;
        }
        countMoves(moved);
        return moved;
    }

    public int stretch(int metres, boolean out) throws IllegalArgumentException {
        if (!isWithin(metres, 1, GREATEST_REACH)) {
            throw new IllegalArgumentException("metres must be 1 to 30");
        }
        int metre = out ? 1 : -1;
        int moved = 0;
        while (moved < metres && isReach(reach + metre) && rig.isSafe(load, direction, reach + metre)) {
            reach += metre;
            moved++;
        }
        countMoves(moved);
        return moved;
    }

    // ---- what there is

    public int direction() {
        return direction;
    }

    public int reach() {
        return reach;
    }

    public int load() {
        return load;
    }

    public int plates() {
        return rig.plates;
    }

    public int outrigger(int side) throws IndexOutOfBoundsException {
        requireSide(side);
        return rig.drawn(side);
    }

    public int limitAt(int reach) throws IllegalArgumentException {
        requireReach(reach);
        return rig.allowed(reach);
    }

    public int strainOn(int side) throws IndexOutOfBoundsException {
        requireSide(side);
        return rig.strain(side, load, direction, reach);
    }

    public int weakestSide() {
        int weakest = 0;
        int greatest = rig.strain(0, load, direction, reach);
        for (int side = 1; side < SIDES; side++) {
            int strain = rig.strain(side, load, direction, reach);
            if (strain > greatest) {
                weakest = side;
                greatest = strain;
            }
        }
        return weakest;
    }

    public int lifts() {
        return lifts;
    }

    public int tonsLifted() {
        return tonsLifted;
    }

    public int movesWithLoad() {
        return movesWithLoad;
    }

    // ---- what would be

    public boolean isSafeWith(int load, int direction, int reach)
            throws IndexOutOfBoundsException, IllegalArgumentException {
        requireDirection(direction);
        requireLoad(load);
        requireReach(reach);
        return rig.isSafe(load, direction, reach);
    }

    public int greatestLoad() {
        // From the top: a load may keep the crane from tipping over its plates,
        // so a load that is not safe does not mean that no greater one is.
        for (int tons = GREATEST_LOAD; tons > 0; tons--) {
            if (rig.isSafe(tons, direction, reach)) {
                return tons;
            }
        }
        return 0;
    }

    public int farthestReach(int load, int direction)
            throws IndexOutOfBoundsException, IllegalArgumentException {
        requireDirection(direction);
        requireLoad(load);
        int farthest = NONE;
        for (int metres = LEAST_REACH; metres <= GREATEST_REACH && rig.isSafe(load, direction, metres); metres++) {
            farthest = metres;
        }
        return farthest;
    }

    public int safeDirections(int load, int reach) throws IllegalArgumentException {
        requireLoad(load);
        requireReach(reach);
        int safe = 0;
        for (int to = 0; to < DIRECTIONS; to++) {
            if (rig.isSafe(load, to, reach)) {
                safe++;
            }
        }
        return safe;
    }

    public int platesNeeded(int load, int direction, int reach)
            throws IndexOutOfBoundsException, IllegalArgumentException {
        requireDirection(direction);
        requireLoad(load);
        requireReach(reach);
        trial.becomeLike(rig);
        for (int plates = 0; plates <= MOST_PLATES; plates++) {
            trial.plates = plates;
            if (trial.isSafe(load, direction, reach)) {
                return plates;
            }
        }
        return NONE;
    }

    public int fewestMoves(int load, int direction, int reach)
            throws IndexOutOfBoundsException, IllegalArgumentException {
        requireDirection(direction);
        requireLoad(load);
        requireReach(reach);
        plan.spread(rig, load, this.direction, this.reach);
        return plan.movesTo(direction, reach);
    }

    public int placesWithin(int load) throws IllegalArgumentException {
        requireLoad(load);
        return plan.spread(rig, load, direction, reach);
    }

    public int bestOutrigger(int load) throws IllegalArgumentException {
        requireLoad(load);
        int best = NONE;
        int most = NONE;
        for (int side = 0; side < SIDES; side++) {
            int out = rig.drawn(side);
            if (out < FARTHEST_OUT) {
                trial.becomeLike(rig);
                trial.draw(side, out + 1);
                int places = plan.spread(trial, load, direction, reach);
                if (places > most) {
                    best = side;
                    most = places;
                }
            }
        }
        return best;
    }

    public double meanLoad() {
        return lifts == 0 ? 0.0 : (double) tonsLifted / (double) lifts;
    }

    public long digest() {
        long d = 1907L;
        d = mixed(d, direction);
        d = mixed(d, reach);
        d = mixed(d, load);
        d = mixed(d, rig.plates);
        d = mixed(d, weakestSide());
        d = mixed(d, lifts);
        d = mixed(d, tonsLifted);
        d = mixed(d, movesWithLoad);
        d = mixed(d, greatestLoad());
        for (int side = 0; side < SIDES; side++) {
            d = mixed(d, rig.drawn(side));
            d = mixed(d, rig.strain(side, load, direction, reach));
        }
        for (int metres = LEAST_REACH; metres <= GREATEST_REACH; metres++) {
            d = mixed(d, rig.allowed(metres));
            d = mixed(d, safeDirections(5, metres));
        }
        return d;
    }

    private static long mixed(long d, int x) {
        return d * 31L + x;
    }

    private void countMoves(int moved) {
        if (load > 0) {
            movesWithLoad += moved;
        }
    }

    private void requireSafe(Rig tried, int load) {
        if (!tried.isSafe(load, direction, reach)) {
            throw new IllegalStateException("it would not be safe then");
        }
    }

    private void requireNoLoad() {
        if (load > 0) {
            throw new IllegalStateException("a load hangs on the boom");
        }
    }

    private static void requireSide(int side) {
        if (!isWithin(side, 0, SIDES - 1)) {
            throw new IndexOutOfBoundsException("side must be 0 to 3");
        }
    }

    private static void requireDirection(int direction) {
        if (!isWithin(direction, 0, DIRECTIONS - 1)) {
            throw new IndexOutOfBoundsException("direction must be 0 to 7");
        }
    }

    private static void requireLoad(int load) {
        if (!isWithin(load, 0, GREATEST_LOAD)) {
            throw new IllegalArgumentException("load must be 0 to 60");
        }
    }

    private static void requireReach(int reach) {
        if (!isReach(reach)) {
            throw new IllegalArgumentException("reach must be 3 to 30");
        }
    }

    private static boolean isReach(int reach) {
        return isWithin(reach, LEAST_REACH, GREATEST_REACH);
    }

    private static boolean isWithin(int value, int least, int greatest) {
        return value >= least && value <= greatest;
    }

    /** The direction beside this one; a turn is 1 or -1, and behind 7 comes 0. */
    private static int turned(int direction, int turn) {
        return (direction + turn + DIRECTIONS) % DIRECTIONS;
    }

    /** Plates, outriggers and table, apart from the boom: what is safe can be asked of a rig that is only tried. */
    private static final class Rig {
        private static final int MIDDLE_TONS = 20;
        private static final int PLATE_TONS = 2;
        private static final int TAIL = 4;
        private static final int STANDS_OUT = 2;
        private static final int FIRST_TABLE = 90;

        private final int[] outs = new int[SIDES];
        private final int[] limits = new int[REACHES];
        int plates;

        Rig() {
            for (int i = 0; i < limits.length; i++) {
                limits[i] = FIRST_TABLE / (i + LEAST_REACH);
            }
        }

        void becomeLike(Rig other) {
            plates = other.plates;
            for (int side = 0; side < SIDES; side++) {
                draw(side, other.drawn(side));
            }
            for (int metres = LEAST_REACH; metres <= GREATEST_REACH; metres++) {
                allow(metres, other.allowed(metres));
            }
        }

        int drawn(int side) {
            return side >= 0 && side < outs.length ? outs[side] : 0;
        }

        void draw(int side, int out) {
            if (side >= 0 && side < outs.length) {
                outs[side] = out;
            }
        }

        int allowed(int metres) {
            int i = metres - LEAST_REACH;
            return i >= 0 && i < limits.length ? limits[i] : 0;
        }

        void allow(int metres, int limit) {
            int i = metres - LEAST_REACH;
            if (i >= 0 && i < limits.length) {
                limits[i] = limit;
            }
        }

        boolean isSafe(int tons, int to, int metres) {
            if (tons > allowed(metres)) {
                return false;
            }
            for (int side = 0; side < SIDES; side++) {
                if (strain(side, tons, to, metres) > 0) {
                    return false;
                }
            }
            return true;
        }

        int strain(int side, int tons, int to, int metres) {
            int e = 10 * (STANDS_OUT + drawn(side));
            int s = slant(to, side);
            return tons * (metres * s - e) - plates * PLATE_TONS * (TAIL * s + e) - MIDDLE_TONS * e;
        }

        private static int slant(int to, int side) {
            switch ((to - 2 * side + DIRECTIONS) % DIRECTIONS) {
                case 0:
                    return 10;
                case 1:
                case 7:
                    return 7;
                case 2:
                case 6:
                    return 0;
                case 3:
                case 5:
                    return -7;
                default:
                    return -10;
            }
        }
    }

    /** The places to which a load can be brought, nearest first. */
    private static final class Plan {
        private final int[] moves = new int[PLACES];
        private final int[] found = new int[PLACES];
        private int places;

        /** Returns how many places there are; 0 if it is not even safe at the start. */
        int spread(Rig rig, int tons, int to, int metres) {
            places = 0;
            for (int place = 0; place < moves.length; place++) {
                moves[place] = NONE;
            }
            visit(rig, tons, to, metres, 0);
            for (int next = 0; next < places && next < found.length; next++) {
                visitBeside(rig, tons, found[next]);
            }
            return places;
        }

        int movesTo(int to, int metres) {
            int place = placeOf(to, metres);
            return place >= 0 && place < moves.length ? moves[place] : NONE;
        }

        private void visitBeside(Rig rig, int tons, int place) {
            if (place < 0 || place >= moves.length) {
                return;
            }
            int to = place / REACHES;
            int metres = place % REACHES + LEAST_REACH;
            int further = moves[place] + 1;
            visit(rig, tons, turned(to, 1), metres, further);
            visit(rig, tons, turned(to, -1), metres, further);
            visit(rig, tons, to, metres + 1, further);
            visit(rig, tons, to, metres - 1, further);
        }

        private void visit(Rig rig, int tons, int to, int metres, int count) {
            int place = placeOf(to, metres);
            if (place < 0 || place >= moves.length || moves[place] != NONE) {
                return;
            }
            if (places >= 0 && places < found.length && rig.isSafe(tons, to, metres)) {
                moves[place] = count;
                found[places] = place;
                places++;
            }
        }

        /** NONE for a reach that the boom does not have, so that no place beside it is meant. */
        private static int placeOf(int to, int metres) {
            return isReach(metres) ? to * REACHES + metres - LEAST_REACH : NONE;
        }
    }
}
