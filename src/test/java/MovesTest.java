/** Promises 5 to 8: lift, setDown, swing, stretch. */
public final class MovesTest {
    public static void main(String[] args) {
        lift();
        liftOverTheLimit();
        setDown();
        setDownOverThePlates();
        swingWithoutLoad();
        swingStopsForTheLoad();
        swingStopsForThePlates();
        stretchWithoutLoad();
        stretchStopsForTheLoad();
        stretchStopsForTheLimit();
        Check.close();
    }

    private static void lift() {
        CraneReach x = new CraneReach();
        Check c = new Check("promise 5", x);
        x.setLimit(3, 60);
        // Over the north side: 10 * load - 400.
        c.asks("lift(41), with a strain of 10", () -> x.lift(41), Check.STATE);
        c.asks("lift(60)", () -> x.lift(60), Check.STATE);
        c.asks("lift(0)", () -> x.lift(0), Check.ARGUMENT);
        c.asks("lift(61)", () -> x.lift(61), Check.ARGUMENT);
        for (int far : Check.FAR_OFF) {
            c.asks("lift(" + far + ")", () -> x.lift(far), Check.ARGUMENT);
        }
        c.does("lift(40), with a strain of just 0", () -> x.lift(40), 1);
        c.asks("load()", x::load, 40);
        c.asks("strainOn(0)", () -> x.strainOn(0), 0);
        c.asks("lift(1), with a load", () -> x.lift(1), Check.STATE);
        c.asks("lift(0), with a load", () -> x.lift(0), Check.ARGUMENT);
        c.asks("lift(61), with a load", () -> x.lift(61), Check.ARGUMENT);
        c.does("setDown()", x::setDown, 40);
        c.does("lift(1)", () -> x.lift(1), 2);
        c.does("setDown()", x::setDown, 1);
        for (int side = 0; side < 4; side++) {
            x.setOutrigger(side, 6);
        }
        c.does("lift(60), on wide feet", () -> x.lift(60), 3);
        c.asks("load()", x::load, 60);
        c.asks("tonsLifted()", x::tonsLifted, 101);
    }

    private static void liftOverTheLimit() {
        CraneReach x = new CraneReach();
        Check c = new Check("promise 5", x);
        c.asks("lift(31)", () -> x.lift(31), Check.STATE);
        c.does("lift(30), just the limit", () -> x.lift(30), 1);
        x.setDown();
        x.setLimit(3, 0);
        c.asks("lift(1), with a limit of 0", () -> x.lift(1), Check.STATE);
    }

    private static void setDown() {
        CraneReach x = new CraneReach();
        Check c = new Check("promise 6", x);
        c.asks("setDown(), without a load", x::setDown, Check.STATE);
        c.does("lift(17)", () -> x.lift(17), 1);
        c.does("setDown()", x::setDown, 17);
        c.asks("load()", x::load, 0);
        c.asks("lifts()", x::lifts, 1);
        c.asks("setDown(), once more", x::setDown, Check.STATE);
    }

    private static void setDownOverThePlates() {
        CraneReach x = new CraneReach();
        Check c = new Check("promise 6", x);
        x.lift(10);
        x.setPlates(11);
        c.asks("setDown(), so that the plates tip it", x::setDown, Check.STATE);
        c.does("setPlates(10)", () -> x.setPlates(10), 11);
        c.does("setDown(), with a strain of just 0", x::setDown, 10);
    }

    private static void swingWithoutLoad() {
        CraneReach x = new CraneReach();
        Check c = new Check("promise 7", x);
        c.does("swing(3, true)", () -> x.swing(3, true), 3);
        c.asks("direction()", x::direction, 3);
        c.does("swing(1, false)", () -> x.swing(1, false), 1);
        c.asks("direction()", x::direction, 2);
        c.does("swing(4, false), over north", () -> x.swing(4, false), 4);
        c.asks("direction()", x::direction, 6);
        c.does("swing(3, true), over north", () -> x.swing(3, true), 3);
        c.asks("direction()", x::direction, 1);
        c.does("swing(8, true), all around", () -> x.swing(8, true), 8);
        c.does("swing(8, false), all around", () -> x.swing(8, false), 8);
        c.asks("direction()", x::direction, 1);
        c.asks("movesWithLoad()", x::movesWithLoad, 0);
        c.asks("swing(0, true)", () -> x.swing(0, true), Check.ARGUMENT);
        c.asks("swing(9, true)", () -> x.swing(9, true), Check.ARGUMENT);
        c.asks("swing(-1, false)", () -> x.swing(-1, false), Check.ARGUMENT);
        c.asks("swing(9, false)", () -> x.swing(9, false), Check.ARGUMENT);
        for (int far : Check.FAR_OFF) {
            c.asks("swing(" + far + ", true)", () -> x.swing(far, true), Check.ARGUMENT);
        }
    }

    private static void swingStopsForTheLoad() {
        CraneReach x = new CraneReach();
        Check c = new Check("promise 7", x);
        // 10 tons at 7 metres are safe to the corners, and to the east behind its outrigger.
        x.setOutrigger(1, 6);
        x.swing(1, true);
        x.lift(10);
        x.stretch(4, true);
        c.does("swing(8, true), up to south", () -> x.swing(8, true), 2);
        c.asks("direction()", x::direction, 3);
        c.asks("swing(1, true), against south", () -> x.swing(1, true), 0);
        c.does("swing(8, false), up to north", () -> x.swing(8, false), 2);
        c.asks("direction()", x::direction, 1);
        c.does("swing(1, true), of two", () -> x.swing(1, true), 1);
        c.asks("movesWithLoad()", x::movesWithLoad, 9);
        c.does("stretch(1, false)", () -> x.stretch(1, false), 1);
        c.does("swing(8, true), all around with the load", () -> x.swing(8, true), 8);
        c.asks("movesWithLoad()", x::movesWithLoad, 18);
    }

    private static void swingStopsForThePlates() {
        CraneReach x = new CraneReach();
        Check c = new Check("promise 7", x);
        x.setOutrigger(2, 1);
        x.setPlates(12);
        c.does("swing(8, true), up to east", () -> x.swing(8, true), 1);
        c.does("swing(8, false), up to west", () -> x.swing(8, false), 2);
        c.asks("direction()", x::direction, 7);
        c.asks("movesWithLoad()", x::movesWithLoad, 0);
    }

    private static void stretchWithoutLoad() {
        CraneReach x = new CraneReach();
        Check c = new Check("promise 8", x);
        c.asks("stretch(5, false), at 3", () -> x.stretch(5, false), 0);
        c.does("stretch(1, true)", () -> x.stretch(1, true), 1);
        c.asks("reach()", x::reach, 4);
        c.does("stretch(30, true)", () -> x.stretch(30, true), 26);
        c.asks("reach()", x::reach, 30);
        c.asks("stretch(1, true), at 30", () -> x.stretch(1, true), 0);
        c.does("stretch(26, false)", () -> x.stretch(26, false), 26);
        c.asks("reach()", x::reach, 4);
        c.does("stretch(30, false)", () -> x.stretch(30, false), 1);
        c.asks("reach()", x::reach, 3);
        c.asks("movesWithLoad()", x::movesWithLoad, 0);
        c.asks("stretch(0, true)", () -> x.stretch(0, true), Check.ARGUMENT);
        c.asks("stretch(31, true)", () -> x.stretch(31, true), Check.ARGUMENT);
        c.asks("stretch(-1, false)", () -> x.stretch(-1, false), Check.ARGUMENT);
        c.asks("stretch(31, false)", () -> x.stretch(31, false), Check.ARGUMENT);
        for (int far : Check.FAR_OFF) {
            c.asks("stretch(" + far + ", false)", () -> x.stretch(far, false), Check.ARGUMENT);
        }
    }

    private static void stretchStopsForTheLoad() {
        CraneReach x = new CraneReach();
        Check c = new Check("promise 8", x);
        x.lift(10);
        // Over the north side: 10 * (10 * reach - 20) - 400.
        c.does("stretch(30, true), up to a strain of just 0", () -> x.stretch(30, true), 3);
        c.asks("strainOn(0)", () -> x.strainOn(0), 0);
        c.does("stretch(2, false)", () -> x.stretch(2, false), 2);
        c.does("stretch(1, true), of two", () -> x.stretch(1, true), 1);
        c.asks("reach()", x::reach, 5);
        c.asks("movesWithLoad()", x::movesWithLoad, 6);
    }

    private static void stretchStopsForTheLimit() {
        CraneReach x = new CraneReach();
        Check c = new Check("promise 8", x);
        x.setLimit(6, 5);
        x.setLimit(7, 4);
        x.lift(5);
        c.does("stretch(30, true), up to a limit under the load", () -> x.stretch(30, true), 3);
        c.does("setLimit(5, 4)", () -> x.setLimit(5, 4), 18);
        c.asks("stretch(30, false), from it", () -> x.stretch(30, false), 0);
        c.does("setLimit(5, 5)", () -> x.setLimit(5, 5), 4);
        c.does("stretch(30, false)", () -> x.stretch(30, false), 3);
        c.asks("movesWithLoad()", x::movesWithLoad, 6);
    }
}
