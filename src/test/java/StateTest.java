/** Promises 9 to 19: what there is. */
public final class StateTest {
    public static void main(String[] args) {
        whereTheBoomIs();
        whatHangs();
        outrigger();
        limitAt();
        strainWithoutLoad();
        strainUnderLoad();
        strainOnNoSide();
        weakestSide();
        weakestSideOfSeveral();
        counts();
        Check.close();
    }

    private static void whereTheBoomIs() {
        CraneReach x = new CraneReach();
        Check c = new Check("promises 9 and 10", x);
        for (int turn = 1; turn <= 8; turn++) {
            x.swing(1, true);
            x.stretch(3, true);
            c.asks("direction() behind turn " + turn, x::direction, turn % 8);
            c.asks("reach() behind turn " + turn, x::reach, 3 + 3 * turn);
        }
        x.swing(1, false);
        x.stretch(2, false);
        c.asks("direction()", x::direction, 7);
        c.asks("reach()", x::reach, 25);
    }

    private static void whatHangs() {
        CraneReach x = new CraneReach();
        Check c = new Check("promises 11 and 12", x);
        x.lift(12);
        c.asks("load()", x::load, 12);
        x.setPlates(12);
        c.asks("plates()", x::plates, 12);
        x.swing(3, true);
        x.stretch(1, true);
        c.asks("load() behind moves", x::load, 12);
        c.asks("plates() behind moves", x::plates, 12);
        x.setPlates(1);
        x.setDown();
        c.asks("load() when it is set down", x::load, 0);
        c.asks("plates()", x::plates, 1);
    }

    private static void outrigger() {
        CraneReach x = feet(new CraneReach(), 4, 0, 2, 1);
        Check c = new Check("promise 13", x);
        c.asks("outrigger(0)", () -> x.outrigger(0), 4);
        c.asks("outrigger(1)", () -> x.outrigger(1), 0);
        c.asks("outrigger(2)", () -> x.outrigger(2), 2);
        c.asks("outrigger(3)", () -> x.outrigger(3), 1);
        c.asks("outrigger(-1)", () -> x.outrigger(-1), Check.INDEX);
        c.asks("outrigger(4)", () -> x.outrigger(4), Check.INDEX);
        for (int far : Check.FAR_OFF) {
            c.asks("outrigger(" + far + ")", () -> x.outrigger(far), Check.INDEX);
        }
    }

    private static void limitAt() {
        CraneReach x = new CraneReach();
        Check c = new Check("promise 14", x);
        for (int reach = 3; reach <= 30; reach++) {
            x.setLimit(reach, 63 - 2 * reach);
        }
        for (int reach = 3; reach <= 30; reach++) {
            int at = reach;
            c.asks("limitAt(" + at + ")", () -> x.limitAt(at), 63 - 2 * at);
        }
        c.asks("limitAt(2)", () -> x.limitAt(2), Check.ARGUMENT);
        c.asks("limitAt(31)", () -> x.limitAt(31), Check.ARGUMENT);
        c.asks("limitAt(0)", () -> x.limitAt(0), Check.ARGUMENT);
        for (int far : Check.FAR_OFF) {
            c.asks("limitAt(" + far + ")", () -> x.limitAt(far), Check.ARGUMENT);
        }
    }

    /** Six plates hang, so that - 12 * (4 * s + e) - 20 * e is due, with e of 60, 20, 40, 30. */
    private static void strainWithoutLoad() {
        int[][] due = {
            {-2400, -640, -800, -960}, {-2256, -976, -944, -624}, {-1920, -1120, -1280, -480},
            {-1584, -976, -1616, -624}, {-1440, -640, -1760, -960}, {-1584, -304, -1616, -1296},
            {-1920, -160, -1280, -1440}, {-2256, -304, -944, -1296},
        };
        int[] weakest = {1, 3, 3, 3, 1, 1, 1, 1};
        CraneReach x = feet(new CraneReach(), 4, 0, 2, 1);
        x.setPlates(6);
        strainsAllAround(x, due, weakest);
    }

    /** As above, and seven tons at nine metres: 7 * (9 * s - e) besides. */
    private static void strainUnderLoad() {
        int[][] due = {
            {-2190, -780, -1710, -1170}, {-2235, -675, -1665, -1275}, {-2340, -630, -1560, -1320},
            {-2445, -675, -1455, -1275}, {-2490, -780, -1410, -1170}, {-2445, -885, -1455, -1065},
            {-2340, -930, -1560, -1020}, {-2235, -885, -1665, -1065},
        };
        int[] weakest = {1, 1, 1, 1, 1, 1, 1, 1};
        CraneReach x = feet(new CraneReach(), 4, 0, 2, 1);
        x.setPlates(6);
        x.lift(7);
        x.stretch(6, true);
        strainsAllAround(x, due, weakest);
    }

    private static void strainsAllAround(CraneReach x, int[][] due, int[] weakest) {
        Check c = new Check("promises 15 and 16", x);
        for (int direction = 0; direction < 8; direction++) {
            for (int side = 0; side < 4; side++) {
                int at = side;
                c.asks("strainOn(" + at + ") at direction " + direction, () -> x.strainOn(at), due[direction][at]);
            }
            c.asks("weakestSide() at direction " + direction, x::weakestSide, weakest[direction]);
            c.does("swing(1, true)", () -> x.swing(1, true), 1);
        }
    }

    private static void strainOnNoSide() {
        CraneReach x = new CraneReach();
        Check c = new Check("promise 15", x);
        c.asks("strainOn(-1)", () -> x.strainOn(-1), Check.INDEX);
        c.asks("strainOn(4)", () -> x.strainOn(4), Check.INDEX);
        for (int far : Check.FAR_OFF) {
            c.asks("strainOn(" + far + ")", () -> x.strainOn(far), Check.INDEX);
        }
    }

    private static void weakestSide() {
        int[][] feet = {{0, 6, 6, 6}, {6, 0, 6, 6}, {6, 6, 0, 6}, {6, 6, 6, 0}};
        for (int side = 0; side < 4; side++) {
            CraneReach x = feet(new CraneReach(), feet[side]);
            new Check("promise 16", x).asks("weakestSide()", x::weakestSide, side);
        }
    }

    private static void weakestSideOfSeveral() {
        int[] due = {0, 0, 1, 1, 2, 2, 3, 0};
        CraneReach x = new CraneReach();
        Check c = new Check("promise 16", x);
        c.asks("weakestSide(), all alike", x::weakestSide, 0);
        x.lift(5);
        for (int direction = 0; direction < 8; direction++) {
            c.asks("weakestSide() at direction " + direction, x::weakestSide, due[direction]);
            x.swing(1, true);
        }
    }

    private static void counts() {
        CraneReach x = new CraneReach();
        Check c = new Check("promises 17 to 19", x);
        x.swing(2, true);
        x.stretch(3, true);
        c.asks("movesWithLoad() without one", x::movesWithLoad, 0);
        x.lift(6);
        c.asks("lifts()", x::lifts, 1);
        c.asks("tonsLifted()", x::tonsLifted, 6);
        x.swing(3, false);
        c.asks("movesWithLoad() behind 3 directions", x::movesWithLoad, 3);
        x.stretch(2, false);
        c.asks("movesWithLoad() behind 2 metres as well", x::movesWithLoad, 5);
        x.setDown();
        x.stretch(1, true);
        x.swing(1, true);
        c.asks("lift(0)", () -> x.lift(0), Check.ARGUMENT);
        c.asks("lift(60)", () -> x.lift(60), Check.STATE);
        c.does("lift(1)", () -> x.lift(1), 2);
        c.asks("lift(2)", () -> x.lift(2), Check.STATE);
        x.stretch(1, true);
        c.asks("lifts()", x::lifts, 2);
        c.asks("tonsLifted()", x::tonsLifted, 7);
        c.asks("movesWithLoad()", x::movesWithLoad, 6);
    }

    private static CraneReach feet(CraneReach x, int... outs) {
        for (int side = 0; side < outs.length; side++) {
            x.setOutrigger(side, outs[side]);
        }
        return x;
    }
}
