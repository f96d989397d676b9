/** Promises 1 to 4: a new object, setPlates, setOutrigger, setLimit. */
public final class SettingsTest {
    public static void main(String[] args) {
        aNewObject();
        objectsAreApart();
        setPlates();
        setPlatesUnderLoad();
        setPlatesBehindAQuestion();
        setOutrigger();
        setOutriggerRefused();
        setOutriggerBehindAQuestion();
        setLimit();
        setLimitUnderLoad();
        setPlatesBehindARefusedLimit();
        Check.close();
    }

    private static void aNewObject() {
        CraneReach x = new CraneReach();
        Check c = new Check("promise 1", x);
        int[] limits = {30, 22, 18, 15, 12, 11, 10, 9, 8, 7, 6, 6, 6, 5, 5, 5, 4, 4, 4, 4, 3, 3, 3, 3, 3, 3, 3, 3};
        c.asks("direction()", x::direction, 0);
        c.asks("reach()", x::reach, 3);
        c.asks("load()", x::load, 0);
        c.asks("plates()", x::plates, 0);
        c.asks("lifts()", x::lifts, 0);
        c.asks("tonsLifted()", x::tonsLifted, 0);
        c.asks("movesWithLoad()", x::movesWithLoad, 0);
        c.asks("meanLoad()", x::meanLoad, 0.0);
        for (int side = 0; side < 4; side++) {
            int at = side;
            c.asks("outrigger(" + at + ")", () -> x.outrigger(at), 0);
            c.asks("strainOn(" + at + ")", () -> x.strainOn(at), -400);
        }
        for (int reach = 3; reach <= 30; reach++) {
            int at = reach;
            c.asks("limitAt(" + at + ")", () -> x.limitAt(at), limits[at - 3]);
        }
        c.asks("isSafeWith(0, 0, 3)", () -> x.isSafeWith(0, 0, 3), true);
    }

    private static void objectsAreApart() {
        CraneReach x = new CraneReach();
        CraneReach other = new CraneReach();
        String before = Check.everything(other);
        x.setPlates(5);
        x.setOutrigger(1, 3);
        x.setLimit(7, 50);
        x.lift(4);
        x.swing(2, true);
        Check.compare("promise 1: all that can be asked of another crane", Check.everything(other), before);
    }

    private static void setPlates() {
        CraneReach x = new CraneReach();
        Check c = new Check("promise 2", x);
        // Over the south side: 40 * plates - 400.
        c.does("setPlates(10), with a strain of just 0", () -> x.setPlates(10), 0);
        c.asks("strainOn(2)", () -> x.strainOn(2), 0);
        c.asks("setPlates(11), with a strain of 40", () -> x.setPlates(11), Check.STATE);
        c.asks("setPlates(12)", () -> x.setPlates(12), Check.STATE);
        c.asks("setPlates(13)", () -> x.setPlates(13), Check.ARGUMENT);
        c.asks("setPlates(-1)", () -> x.setPlates(-1), Check.ARGUMENT);
        for (int plates : Check.FAR_OFF) {
            c.asks("setPlates(" + plates + ")", () -> x.setPlates(plates), Check.ARGUMENT);
        }
        c.does("setPlates(3)", () -> x.setPlates(3), 10);
        c.asks("plates()", x::plates, 3);
        c.does("setPlates(3), as it is", () -> x.setPlates(3), 3);
        c.does("setPlates(0)", () -> x.setPlates(0), 3);
        c.asks("plates()", x::plates, 0);
    }

    private static void setPlatesUnderLoad() {
        CraneReach x = new CraneReach();
        Check c = new Check("promise 2", x);
        c.does("setPlates(3)", () -> x.setPlates(3), 0);
        c.does("stretch(6, true)", () -> x.stretch(6, true), 6);
        c.does("lift(10)", () -> x.lift(10), 1);
        // 10 * (90 - 20) - 120 * plates - 400.
        c.asks("setPlates(2), so that the load tips it", () -> x.setPlates(2), Check.STATE);
        c.does("setPlates(12), held by the load", () -> x.setPlates(12), 3);
        c.asks("plates()", x::plates, 12);
    }

    /** The question tried the west outrigger farther out, over which side the plates hang. */
    private static void setPlatesBehindAQuestion() {
        CraneReach x = new CraneReach();
        Check c = new Check("promise 2", x);
        x.swing(2, true);
        x.bestOutrigger(5);
        c.asks("setPlates(11), with a strain of 40 to the west", () -> x.setPlates(11), Check.STATE);
    }

    private static void setOutrigger() {
        CraneReach x = new CraneReach();
        Check c = new Check("promise 3", x);
        for (int side = 0; side < 4; side++) {
            int at = side;
            c.does("setOutrigger(" + at + ", 6)", () -> x.setOutrigger(at, 6), 0);
            c.asks("outrigger(" + at + ")", () -> x.outrigger(at), 6);
            c.does("setOutrigger(" + at + ", " + (at + 1) + ")", () -> x.setOutrigger(at, at + 1), 6);
            c.does("setOutrigger(" + at + ", " + (at + 1) + ")", () -> x.setOutrigger(at, at + 1), at + 1);
        }
        for (int side = 0; side < 4; side++) {
            int at = side;
            c.asks("outrigger(" + at + ")", () -> x.outrigger(at), at + 1);
        }
        c.does("setOutrigger(3, 0)", () -> x.setOutrigger(3, 0), 4);
        c.asks("outrigger(3)", () -> x.outrigger(3), 0);
    }

    private static void setOutriggerRefused() {
        CraneReach x = new CraneReach();
        Check c = new Check("promise 3", x);
        c.does("setOutrigger(2, 1)", () -> x.setOutrigger(2, 1), 0);
        c.does("setPlates(12)", () -> x.setPlates(12), 0);
        c.asks("setOutrigger(2, 0), over whose side the plates tip it", () -> x.setOutrigger(2, 0), Check.STATE);
        c.asks("setOutrigger(-1, 9)", () -> x.setOutrigger(-1, 9), Check.INDEX);
        c.asks("setOutrigger(4, 0)", () -> x.setOutrigger(4, 0), Check.INDEX);
        c.asks("setOutrigger(2, 7)", () -> x.setOutrigger(2, 7), Check.ARGUMENT);
        c.asks("setOutrigger(2, -1)", () -> x.setOutrigger(2, -1), Check.ARGUMENT);
        for (int far : Check.FAR_OFF) {
            c.asks("setOutrigger(" + far + ", 0)", () -> x.setOutrigger(far, 0), Check.INDEX);
            c.asks("setOutrigger(0, " + far + ")", () -> x.setOutrigger(0, far), Check.ARGUMENT);
            c.asks("setOutrigger(" + far + ", " + far + ")", () -> x.setOutrigger(far, far), Check.INDEX);
        }
        c.does("lift(1)", () -> x.lift(1), 1);
        c.asks("setOutrigger(2, 6), with a load", () -> x.setOutrigger(2, 6), Check.STATE);
        c.asks("setOutrigger(0, 0), with a load, as it is", () -> x.setOutrigger(0, 0), Check.STATE);
        c.asks("setOutrigger(0, 7), with a load", () -> x.setOutrigger(0, 7), Check.ARGUMENT);
        c.asks("setOutrigger(4, 7), with a load", () -> x.setOutrigger(4, 7), Check.INDEX);
        c.asks("setOutrigger(-1, 0), with a load", () -> x.setOutrigger(-1, 0), Check.INDEX);
        c.does("setDown()", x::setDown, 1);
        c.does("setOutrigger(2, 6)", () -> x.setOutrigger(2, 6), 1);
    }

    /** The question tried the crane without plates, which hang over the south side. */
    private static void setOutriggerBehindAQuestion() {
        CraneReach x = new CraneReach();
        Check c = new Check("promise 3", x);
        x.setOutrigger(2, 1);
        x.setPlates(12);
        x.platesNeeded(0, 0, 3);
        c.asks("setOutrigger(2, 0), over whose side the plates tip it", () -> x.setOutrigger(2, 0), Check.STATE);
    }

    private static void setLimit() {
        CraneReach x = new CraneReach();
        Check c = new Check("promise 4", x);
        c.does("setLimit(3, 60)", () -> x.setLimit(3, 60), 30);
        c.does("setLimit(3, 0), where it reaches without a load", () -> x.setLimit(3, 0), 60);
        c.does("setLimit(3, 7)", () -> x.setLimit(3, 7), 0);
        c.does("setLimit(30, 60)", () -> x.setLimit(30, 60), 3);
        c.does("setLimit(30, 59)", () -> x.setLimit(30, 59), 60);
        c.asks("limitAt(3)", () -> x.limitAt(3), 7);
        c.asks("limitAt(4)", () -> x.limitAt(4), 22);
        c.asks("limitAt(29)", () -> x.limitAt(29), 3);
        c.asks("limitAt(30)", () -> x.limitAt(30), 59);
        c.asks("setLimit(2, 5)", () -> x.setLimit(2, 5), Check.ARGUMENT);
        c.asks("setLimit(31, 5)", () -> x.setLimit(31, 5), Check.ARGUMENT);
        c.asks("setLimit(3, -1)", () -> x.setLimit(3, -1), Check.ARGUMENT);
        c.asks("setLimit(3, 61)", () -> x.setLimit(3, 61), Check.ARGUMENT);
        for (int far : Check.FAR_OFF) {
            c.asks("setLimit(" + far + ", 5)", () -> x.setLimit(far, 5), Check.ARGUMENT);
            c.asks("setLimit(5, " + far + ")", () -> x.setLimit(5, far), Check.ARGUMENT);
        }
    }

    private static void setLimitUnderLoad() {
        CraneReach x = new CraneReach();
        Check c = new Check("promise 4", x);
        c.does("lift(5)", () -> x.lift(5), 1);
        c.asks("setLimit(3, 4), under the load", () -> x.setLimit(3, 4), Check.STATE);
        c.asks("setLimit(3, 61)", () -> x.setLimit(3, 61), Check.ARGUMENT);
        c.asks("setLimit(3, -1)", () -> x.setLimit(3, -1), Check.ARGUMENT);
        c.does("setLimit(3, 5), just the load", () -> x.setLimit(3, 5), 30);
        c.does("setLimit(4, 0), where it does not reach now", () -> x.setLimit(4, 0), 22);
        c.does("setLimit(3, 60)", () -> x.setLimit(3, 60), 5);
    }

    /** The refused limit would not let the load hang there, whatever else is tried. */
    private static void setPlatesBehindARefusedLimit() {
        for (int metres : new int[] {0, 27}) {
            CraneReach x = new CraneReach();
            Check c = new Check("promise 4", x);
            int reach = 3 + metres;
            x.lift(1);
            c.does("stretch(" + metres + ", true)", () -> metres == 0 ? 0 : x.stretch(metres, true), metres);
            c.asks("setLimit(" + reach + ", 0), under the load", () -> x.setLimit(reach, 0), Check.STATE);
            c.asks("platesNeeded(1, 0, " + reach + ")", () -> x.platesNeeded(1, 0, reach), 0);
            c.does("setPlates(1)", () -> x.setPlates(1), 0);
        }
    }
}
