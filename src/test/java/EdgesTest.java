import java.math.BigInteger;

/**
 * Boundary cases that the document names and that the tests by promise don't tell apart: one function a sentence.
 * Over a side: load * (reach * s - e) - plates * 2 * (4 * s + e) - 20 * e, with e = 20 for an outrigger drawn in.
 */
public final class EdgesTest {
    public static void main(String[] args) {
        safeAtFirst();
        safeThenAlways();
        theLastOf512Calls();
        platesOutOfRangeAreToldBeforeSafety();
        outriggerDrawnInToAStrainOfJust0();
        outriggersAreFreeAgainWithoutALoad();
        limitOutOfRangeIsToldBeforeSafety();
        leastAndGreatestLoadAreSetDown();
        theLoadKeepsHangingWhenSetDownIsRefused();
        swingFrom7To0AndFrom0To7();
        swingThatNothingLetsGoFrom7To0();
        swingThatNothingLetsGoFrom0To7();
        swingOntoAStrainOfJust0();
        stretchOverAllReaches();
        stretchInUntilThePlatesWouldTipIt();
        stretchThatNothingLetsGo();
        leastAndGreatestOfIsSafeWith();
        greatestLoadOnAStrainOfJust0();
        farthestReachWithTheGreatestLoad();
        farthestReachIsNotBehindAGap();
        safeDirectionsWithTheLeastAndTheGreatest();
        platesNeededForAStrainOfJust0();
        fewestMovesFrom7To0AndFrom0To7();
        fewestMovesTheLongWayAround();
        fewestMovesWhereItIsNotSafeNow();
        placesWithinOnlyThatOfNow();
        bestOutriggerOfTwoAlike();
        bestOutriggerWithoutAnyPlace();
        digestWrapsAround();
        Check.close();
    }

    /** 1: a crane as it is at first, which is safe. */
    private static void safeAtFirst() {
        CraneReach x = new CraneReach();
        Check c = new Check("promise 1, at first", x);
        c.asks("isSafeWith(0, 0, 3)", () -> x.isSafeWith(0, 0, 3), true);
        c.asks("safeDirections(0, 3)", () -> x.safeDirections(0, 3), 8);
        c.asks("placesWithin(0)", () -> x.placesWithin(0), 224);
    }

    /** 1: so it is then always. Twelve rounds keep each object below its 512 calls. */
    private static void safeThenAlways() {
        long[] seed = {19};
        for (int object = 0; object < 700; object++) {
            CraneReach x = new CraneReach();
            for (int round = 0; round < 12; round++) {
                staysSafe(x, "setPlates", () -> x.setPlates(upTo(seed, 12)));
                staysSafe(x, "setOutrigger", () -> x.setOutrigger(upTo(seed, 3), upTo(seed, 6)));
                staysSafe(x, "setLimit", () -> x.setLimit(3 + upTo(seed, 27), upTo(seed, 60)));
                staysSafe(x, "setLimit", () -> x.setLimit(x.reach(), upTo(seed, 60)));
                staysSafe(x, "lift or setDown", () -> x.load() == 0 ? x.lift(1 + upTo(seed, 29)) : x.setDown());
                staysSafe(x, "swing", () -> x.swing(1 + upTo(seed, 7), upTo(seed, 1) == 0));
                staysSafe(x, "stretch", () -> x.stretch(1 + upTo(seed, 29), upTo(seed, 1) == 0));
            }
        }
    }

    private static void staysSafe(CraneReach x, String call, Check.Call made) {
        Check.answer(made);
        Check.compare("promise 1, always: safe behind " + call,
            String.valueOf(x.isSafeWith(x.load(), x.direction(), x.reach())), "true");
    }

    private static int upTo(long[] seed, int greatest) {
        seed[0] = seed[0] * 6364136223846793005L + 1442695040888963407L;
        return (int) ((seed[0] >>> 33) % (greatest + 1));
    }

    /** An object is used for at most 512 calls: the last one is answered as the first one. */
    private static void theLastOf512Calls() {
        CraneReach x = new CraneReach();
        x.setLimit(3, 60);
        x.swing(1, true);
        for (int load = 1; load <= 254; load++) {
            x.lift(60);
            x.setDown();
        }
        Check.compare("the 511th call, tonsLifted()", String.valueOf(x.tonsLifted()), "15240");
        Check.compare("the 512th call, meanLoad()", String.valueOf(x.meanLoad()), "60.0");
    }

    /** 2: IllegalArgumentException is named before IllegalStateException; with -1 plates the load would tip it. */
    private static void platesOutOfRangeAreToldBeforeSafety() {
        CraneReach x = new CraneReach();
        Check c = new Check("promise 2", x);
        x.setPlates(3);
        x.stretch(6, true);
        x.lift(10);
        c.asks("setPlates(-1), so that the load would tip it", () -> x.setPlates(-1), Check.ARGUMENT);
        c.asks("setPlates(0), so that the load tips it", () -> x.setPlates(0), Check.STATE);
        c.asks("setPlates(13)", () -> x.setPlates(13), Check.ARGUMENT);
    }

    /** 3: or it would not be safe then; a strain of just 0 to the south is safe, one of 40 is not. */
    private static void outriggerDrawnInToAStrainOfJust0() {
        CraneReach x = new CraneReach();
        Check c = new Check("promise 3", x);
        x.setOutrigger(2, 1);
        x.setPlates(11);
        c.asks("setOutrigger(2, 0), with 11 plates", () -> x.setOutrigger(2, 0), Check.STATE);
        x.setPlates(10);
        c.does("setOutrigger(2, 0), with 10 plates", () -> x.setOutrigger(2, 0), 1);
        c.asks("strainOn(2)", () -> x.strainOn(2), 0);
    }

    /** 3: if a load hangs on the boom, be it the least one; behind setDown() none does. */
    private static void outriggersAreFreeAgainWithoutALoad() {
        CraneReach x = new CraneReach();
        Check c = new Check("promise 3", x);
        x.lift(1);
        for (int side = 0; side < 4; side++) {
            int at = side;
            c.asks("setOutrigger(" + at + ", 1), with a load of 1", () -> x.setOutrigger(at, 1), Check.STATE);
        }
        x.setDown();
        for (int side = 0; side < 4; side++) {
            int at = side;
            c.does("setOutrigger(" + at + ", 1), without", () -> x.setOutrigger(at, 1), 0);
        }
    }

    /** 4: IllegalArgumentException is named before IllegalStateException. */
    private static void limitOutOfRangeIsToldBeforeSafety() {
        CraneReach x = new CraneReach();
        Check c = new Check("promise 4", x);
        x.lift(1);
        c.asks("setLimit(3, -1), under the load", () -> x.setLimit(3, -1), Check.ARGUMENT);
        c.asks("setLimit(2, 0)", () -> x.setLimit(2, 0), Check.ARGUMENT);
        c.asks("setLimit(31, 61)", () -> x.setLimit(31, 61), Check.ARGUMENT);
        c.asks("setLimit(3, 0), under the load", () -> x.setLimit(3, 0), Check.STATE);
        c.does("setLimit(3, 1), just the load", () -> x.setLimit(3, 1), 30);
    }

    /** 5 and 6: a load of 1 to 60, of which setDown() tells the tons. */
    private static void leastAndGreatestLoadAreSetDown() {
        CraneReach x = new CraneReach();
        Check c = new Check("promises 5 and 6", x);
        x.setLimit(3, 60);
        x.swing(1, true);
        c.does("lift(60)", () -> x.lift(60), 1);
        c.does("setDown()", x::setDown, 60);
        c.does("lift(1)", () -> x.lift(1), 2);
        c.does("setDown()", x::setDown, 1);
    }

    /** 6: or it would not be safe then; a method that throws changes nothing. */
    private static void theLoadKeepsHangingWhenSetDownIsRefused() {
        CraneReach x = new CraneReach();
        Check c = new Check("promise 6", x);
        x.lift(2);
        x.setPlates(12);
        c.asks("setDown(), so that 12 plates tip it", x::setDown, Check.STATE);
        c.asks("load()", x::load, 2);
        c.asks("lift(1), for the load hangs still", () -> x.lift(1), Check.STATE);
    }

    /** 7: behind 7 comes 0, and the other way behind 0 comes 7. */
    private static void swingFrom7To0AndFrom0To7() {
        CraneReach x = new CraneReach();
        Check c = new Check("promise 7", x);
        c.does("swing(1, false), from 0", () -> x.swing(1, false), 1);
        c.asks("direction()", x::direction, 7);
        c.does("swing(1, true), from 7", () -> x.swing(1, true), 1);
        c.asks("direction()", x::direction, 0);
        c.does("swing(8, false)", () -> x.swing(8, false), 8);
        c.asks("direction() behind 8", x::direction, 0);
        c.does("swing(7, true)", () -> x.swing(7, true), 7);
        c.asks("direction() behind 7", x::direction, 7);
        c.does("swing(8, true)", () -> x.swing(8, true), 8);
        c.asks("direction() behind 8 more", x::direction, 7);
    }

    /** 7: as long as it is safe in the next one: to the north 10 * (70 - 20) - 400 is not. */
    private static void swingThatNothingLetsGoFrom7To0() {
        CraneReach x = new CraneReach();
        Check c = new Check("promise 7", x);
        x.swing(1, false);
        x.stretch(4, true);
        x.lift(10);
        c.asks("swing(1, true), from 7 to 0", () -> x.swing(1, true), 0);
        c.asks("swing(8, true), from 7 to 0", () -> x.swing(8, true), 0);
        c.asks("swing(8, false), from 7 to 6", () -> x.swing(8, false), 0);
        c.asks("swing(0, true), where it can't swing", () -> x.swing(0, true), Check.ARGUMENT);
        c.asks("swing(9, false), where it can't swing", () -> x.swing(9, false), Check.ARGUMENT);
    }

    /** 7: as long as it is safe in the next one: over the west side 10 * (63 - 20) - 400 is not. */
    private static void swingThatNothingLetsGoFrom0To7() {
        CraneReach x = new CraneReach();
        Check c = new Check("promise 7", x);
        x.setOutrigger(0, 6);
        x.stretch(6, true);
        x.lift(10);
        c.asks("swing(1, false), from 0 to 7", () -> x.swing(1, false), 0);
        c.asks("swing(8, false), from 0 to 7", () -> x.swing(8, false), 0);
        c.asks("swing(8, true), from 0 to 1", () -> x.swing(8, true), 0);
        c.asks("movesWithLoad()", x::movesWithLoad, 0);
        x.stretch(1, false);
        c.does("swing(1, false), from 0 to 7, a metre less far", () -> x.swing(1, false), 1);
        c.asks("direction()", x::direction, 7);
    }

    /** 7, and the terms: it tips, if the strain is more than 0; 40 * (30 - 20) - 400 is not. */
    private static void swingOntoAStrainOfJust0() {
        CraneReach x = new CraneReach();
        Check c = new Check("promise 7", x);
        x.setLimit(3, 60);
        x.swing(1, true);
        x.lift(40);
        c.does("swing(8, false), with 40 tons", () -> x.swing(8, false), 8);
        c.does("swing(1, false), with 40 tons", () -> x.swing(1, false), 1);
        c.asks("strainOn(0)", () -> x.strainOn(0), 0);
        x.swing(1, true);
        x.setDown();
        x.lift(41);
        c.asks("swing(8, false), with 41 tons", () -> x.swing(8, false), 0);
        c.asks("swing(8, true), with 41 tons", () -> x.swing(8, true), 0);
    }

    /** 8: at the next reach, which is 3 to 30. */
    private static void stretchOverAllReaches() {
        CraneReach x = new CraneReach();
        Check c = new Check("promise 8", x);
        c.asks("stretch(1, false), at 3", () -> x.stretch(1, false), 0);
        c.does("stretch(27, true), just all", () -> x.stretch(27, true), 27);
        c.asks("stretch(30, true), at 30", () -> x.stretch(30, true), 0);
        c.does("stretch(27, false), just all", () -> x.stretch(27, false), 27);
        c.does("stretch(30, true), more than there are", () -> x.stretch(30, true), 27);
        c.asks("reach()", x::reach, 30);
        c.does("stretch(30, false), more than there are", () -> x.stretch(30, false), 27);
        c.asks("reach()", x::reach, 3);
        c.does("stretch(26, true), all but one", () -> x.stretch(26, true), 26);
        c.asks("reach()", x::reach, 29);
        c.does("stretch(30, true), the last one", () -> x.stretch(30, true), 1);
    }

    /** 8, and the terms: it can tip over its plates, too: to the south - (10 * reach + 20) + 480 - 400. */
    private static void stretchInUntilThePlatesWouldTipIt() {
        CraneReach x = new CraneReach();
        Check c = new Check("promise 8", x);
        x.stretch(7, true);
        x.lift(1);
        c.does("setPlates(12), at 10", () -> x.setPlates(12), 0);
        c.does("stretch(30, false), to a strain of just 0", () -> x.stretch(30, false), 4);
        c.asks("reach()", x::reach, 6);
        c.asks("strainOn(2)", () -> x.strainOn(2), 0);
        c.asks("stretch(1, false), to a strain of 10", () -> x.stretch(1, false), 0);
        c.asks("movesWithLoad()", x::movesWithLoad, 4);
        c.does("stretch(1, true)", () -> x.stretch(1, true), 1);
    }

    /** 8: as long as it is safe at the next reach; what metres may be is asked first. */
    private static void stretchThatNothingLetsGo() {
        CraneReach x = new CraneReach();
        Check c = new Check("promise 8", x);
        x.setLimit(4, 0);
        x.lift(1);
        c.asks("stretch(1, true)", () -> x.stretch(1, true), 0);
        c.asks("stretch(30, true)", () -> x.stretch(30, true), 0);
        c.asks("stretch(1, false)", () -> x.stretch(1, false), 0);
        c.asks("stretch(0, true), where it can't", () -> x.stretch(0, true), Check.ARGUMENT);
        c.asks("stretch(31, true), where it can't", () -> x.stretch(31, true), Check.ARGUMENT);
        c.asks("stretch(31, false), where it can't", () -> x.stretch(31, false), Check.ARGUMENT);
        c.asks("movesWithLoad()", x::movesWithLoad, 0);
    }

    /** 20: a load of 0 to 60, a direction of 0 to 7, a reach of 3 to 30. */
    private static void leastAndGreatestOfIsSafeWith() {
        CraneReach x = new CraneReach();
        Check c = new Check("promise 20", x);
        x.setLimit(3, 60);
        x.setLimit(30, 60);
        for (int direction : new int[] {0, 7}) {
            String told = ", " + direction + ", ";
            c.asks("isSafeWith(0" + told + "3)", () -> x.isSafeWith(0, direction, 3), true);
            c.asks("isSafeWith(0" + told + "30)", () -> x.isSafeWith(0, direction, 30), true);
            c.asks("isSafeWith(60" + told + "3)", () -> x.isSafeWith(60, direction, 3), direction == 7);
            c.asks("isSafeWith(60" + told + "30)", () -> x.isSafeWith(60, direction, 30), false);
        }
    }

    /** 21: the greatest load, 0 to 60: to the corners 7 * (77 - 20) is just below 400, 8 * (70 - 20) just 400. */
    private static void greatestLoadOnAStrainOfJust0() {
        CraneReach x = new CraneReach();
        Check c = new Check("promise 21", x);
        x.setLimit(7, 60);
        x.stretch(4, true);
        c.asks("greatestLoad(), with a strain of just 0", x::greatestLoad, 8);
        x.setLimit(7, 8);
        c.asks("greatestLoad(), at the limit as well", x::greatestLoad, 8);
        x.setLimit(7, 7);
        c.asks("greatestLoad(), at a limit before it", x::greatestLoad, 7);
        x.setLimit(11, 60);
        x.swing(1, true);
        x.stretch(4, true);
        c.asks("greatestLoad(), with a strain of -1", x::greatestLoad, 7);
    }

    /** 22: a load of 0 to 60, a direction of 0 to 7; -1 if not even at 3. */
    private static void farthestReachWithTheGreatestLoad() {
        CraneReach x = new CraneReach();
        Check c = new Check("promise 22", x);
        x.setLimit(3, 59);
        x.setLimit(4, 60);
        c.asks("farthestReach(60, 7), over the limit at 3", () -> x.farthestReach(60, 7), -1);
        x.setLimit(3, 60);
        c.asks("farthestReach(60, 7), not at 4", () -> x.farthestReach(60, 7), 3);
        c.asks("farthestReach(60, 0), not even at 3", () -> x.farthestReach(60, 0), -1);
        c.asks("farthestReach(1, 0), the greatest of all", () -> x.farthestReach(1, 0), 30);
    }

    /** 22: and also at all smaller ones. */
    private static void farthestReachIsNotBehindAGap() {
        CraneReach x = new CraneReach();
        Check c = new Check("promise 22", x);
        x.setLimit(29, 0);
        c.asks("farthestReach(1, 0), safe at 30 again", () -> x.farthestReach(1, 0), 28);
        x.setLimit(30, 0);
        x.setLimit(29, 1);
        c.asks("farthestReach(1, 0), all but 30", () -> x.farthestReach(1, 0), 29);
        x.setLimit(3, 0);
        c.asks("farthestReach(1, 0), all but 3", () -> x.farthestReach(1, 0), -1);
    }

    /** 23: a load of 0 to 60, a reach of 3 to 30; none of the directions up to all of them. */
    private static void safeDirectionsWithTheLeastAndTheGreatest() {
        CraneReach x = new CraneReach();
        Check c = new Check("promise 23", x);
        x.setLimit(3, 60);
        c.asks("safeDirections(0, 3)", () -> x.safeDirections(0, 3), 8);
        c.asks("safeDirections(60, 3), the corners", () -> x.safeDirections(60, 3), 4);
        c.asks("safeDirections(3, 30), at the limit", () -> x.safeDirections(3, 30), 0);
        c.asks("safeDirections(2, 30), the corners", () -> x.safeDirections(2, 30), 4);
        c.asks("safeDirections(1, 30)", () -> x.safeDirections(1, 30), 8);
        c.asks("safeDirections(60, 30)", () -> x.safeDirections(60, 30), 0);
        for (int side = 0; side < 4; side++) {
            x.setOutrigger(side, 1);
        }
        c.asks("safeDirections(60, 3), on wider feet", () -> x.safeDirections(60, 3), 8);
    }

    /** 24: the fewest plates, 0 to 12, with which it would be safe: 10 * (120 - 20) - 120 * 5 - 400 is just 0. */
    private static void platesNeededForAStrainOfJust0() {
        CraneReach x = new CraneReach();
        Check c = new Check("promise 24", x);
        for (int reach : new int[] {3, 12, 13, 20, 21}) {
            x.setLimit(reach, 60);
        }
        c.asks("platesNeeded(10, 0, 12), with a strain of just 0", () -> x.platesNeeded(10, 0, 12), 5);
        c.asks("platesNeeded(10, 0, 13), a sixth for 100 more", () -> x.platesNeeded(10, 0, 13), 6);
        c.asks("platesNeeded(60, 7, 3), none", () -> x.platesNeeded(60, 7, 3), 0);
        c.asks("platesNeeded(60, 0, 3)", () -> x.platesNeeded(60, 0, 3), 2);
        // At 20 the plates have 1400 to hold, at 21 they have 1500; twelve hold 1440.
        c.asks("platesNeeded(10, 0, 20), all", () -> x.platesNeeded(10, 0, 20), 12);
        c.asks("platesNeeded(10, 0, 21), more than all", () -> x.platesNeeded(10, 0, 21), -1);
        c.asks("platesNeeded(0, 0, 30), none", () -> x.platesNeeded(0, 0, 30), 0);
    }

    /** 25: a move is a direction to either side, also between 7 and 0. */
    private static void fewestMovesFrom7To0AndFrom0To7() {
        CraneReach x = new CraneReach();
        Check c = new Check("promise 25", x);
        c.asks("fewestMoves(0, 7, 3), from 0", () -> x.fewestMoves(0, 7, 3), 1);
        c.asks("fewestMoves(0, 6, 30), from 0", () -> x.fewestMoves(0, 6, 30), 29);
        x.swing(1, false);
        c.asks("fewestMoves(0, 0, 3), from 7", () -> x.fewestMoves(0, 0, 3), 1);
        c.asks("fewestMoves(0, 3, 3), from 7", () -> x.fewestMoves(0, 3, 3), 4);
        c.asks("fewestMoves(0, 7, 3), from 7", () -> x.fewestMoves(0, 7, 3), 0);
        x.stretch(27, true);
        c.asks("fewestMoves(0, 2, 30), from 7 and 30", () -> x.fewestMoves(0, 2, 30), 3);
        c.asks("fewestMoves(0, 2, 3), from 7 and 30", () -> x.fewestMoves(0, 2, 3), 30);
    }

    /** 25: it has to be safe behind each move: over north it is not, and no reach below is allowed. */
    private static void fewestMovesTheLongWayAround() {
        CraneReach x = new CraneReach();
        Check c = new Check("promise 25", x);
        for (int side = 1; side < 4; side++) {
            x.setOutrigger(side, 6);
        }
        x.swing(1, false);
        x.stretch(4, true);
        c.asks("fewestMoves(10, 1, 7), in, over north, out", () -> x.fewestMoves(10, 1, 7), 4);
        for (int metres = 3; metres <= 6; metres++) {
            x.setLimit(metres, 9);
        }
        c.asks("fewestMoves(10, 1, 7), over south", () -> x.fewestMoves(10, 1, 7), 6);
        c.asks("fewestMoves(9, 1, 7), in, over north, out", () -> x.fewestMoves(9, 1, 7), 4);
        c.asks("fewestMoves(10, 0, 7), where it tips", () -> x.fewestMoves(10, 0, 7), -1);
    }

    /** 25: it has to be safe now, with this load; even to bring it to where it is. */
    private static void fewestMovesWhereItIsNotSafeNow() {
        CraneReach x = new CraneReach();
        Check c = new Check("promise 25", x);
        c.asks("fewestMoves(30, 0, 3), just the limit", () -> x.fewestMoves(30, 0, 3), 0);
        c.asks("fewestMoves(31, 0, 3), over the limit", () -> x.fewestMoves(31, 0, 3), -1);
        x.setLimit(3, 60);
        c.asks("fewestMoves(40, 0, 3), with a strain of just 0", () -> x.fewestMoves(40, 0, 3), 0);
        c.asks("fewestMoves(41, 0, 3), with a strain of 10", () -> x.fewestMoves(41, 0, 3), -1);
        c.asks("fewestMoves(41, 1, 3), safe there, not now", () -> x.fewestMoves(41, 1, 3), -1);
        x.lift(2);
        x.setPlates(12);
        c.asks("fewestMoves(0, 0, 3), over the plates now", () -> x.fewestMoves(0, 0, 3), -1);
        c.asks("fewestMoves(2, 0, 4), with the load that hangs", () -> x.fewestMoves(2, 0, 4), 1);
    }

    /** 26: that of now as well; 0 if it is not safe now. */
    private static void placesWithinOnlyThatOfNow() {
        CraneReach x = new CraneReach();
        Check c = new Check("promise 26", x);
        x.setLimit(3, 60);
        c.asks("placesWithin(60), at north", () -> x.placesWithin(60), 0);
        c.asks("placesWithin(40), all around at 3", () -> x.placesWithin(40), 8);
        x.swing(1, true);
        c.asks("placesWithin(60), at the corner", () -> x.placesWithin(60), 1);
        x.lift(1);
        c.asks("placesWithin(60), whatever hangs", () -> x.placesWithin(60), 1);
        x.swing(2, false);
        c.asks("placesWithin(60), at the corner beside 0", () -> x.placesWithin(60), 1);
        x.setLimit(3, 59);
        c.asks("placesWithin(60), over the limit now", () -> x.placesWithin(60), 0);
    }

    /** 27: of several the smallest number: at a corner with 60 tons each of its two sides opens the next corner. */
    private static void bestOutriggerOfTwoAlike() {
        int[] due = {0, 1, 2, 0};
        CraneReach x = new CraneReach();
        Check c = new Check("promise 27", x);
        x.setLimit(3, 60);
        x.swing(1, true);
        for (int corner = 0; corner < 4; corner++) {
            int at = corner;
            c.asks("bestOutrigger(60) at direction " + (2 * at + 1), () -> x.bestOutrigger(60), due[at]);
            x.swing(2, true);
        }
        x.setOutrigger(0, 1);
        c.asks("placesWithin(60), over north", () -> x.placesWithin(60), 3);
    }

    /** 27: of several the smallest number, also if placesWithin() tells 0 for all; -1 only if all are out by 6. */
    private static void bestOutriggerWithoutAnyPlace() {
        CraneReach x = new CraneReach();
        Check c = new Check("promise 27", x);
        x.setLimit(3, 0);
        c.asks("bestOutrigger(1), all drawn in", () -> x.bestOutrigger(1), 0);
        for (int side = 0; side < 4; side++) {
            int at = side;
            x.setOutrigger(at, 5);
            c.asks("bestOutrigger(1), side " + at + " out by 5", () -> x.bestOutrigger(1), at);
            x.setOutrigger(at, 6);
            c.asks("bestOutrigger(1), side " + at + " out by 6", () -> x.bestOutrigger(1), at == 3 ? -1 : at + 1);
        }
        c.asks("bestOutrigger(60), all drawn out", () -> x.bestOutrigger(60), -1);
        c.asks("bestOutrigger(61), all drawn out", () -> x.bestOutrigger(61), Check.ARGUMENT);
        c.asks("bestOutrigger(-1), all drawn out", () -> x.bestOutrigger(-1), Check.ARGUMENT);
    }

    /** 29: which wraps around as a 64-bit integer: the same sum without an end, and its last 64 bits. */
    private static void digestWrapsAround() {
        CraneReach x = new CraneReach();
        x.setPlates(4);
        x.lift(9);
        x.swing(3, false);
        BigInteger d = BigInteger.valueOf(1907);
        int[] told = {x.direction(), x.reach(), x.load(), x.plates(), x.weakestSide(), x.lifts(), x.tonsLifted(),
            x.movesWithLoad(), x.greatestLoad()};
        for (int answer : told) {
            d = behind(d, answer);
        }
        for (int side = 0; side < 4; side++) {
            d = behind(behind(d, x.outrigger(side)), x.strainOn(side));
        }
        for (int reach = 3; reach <= 30; reach++) {
            d = behind(behind(d, x.limitAt(reach)), x.safeDirections(5, reach));
        }
        Check.compare("promise 29: whether the sum is longer than 64 bits", String.valueOf(d.bitLength() > 64), "true");
        Check.compare("promise 29: digest()", String.valueOf(x.digest()), String.valueOf(d.longValue()));
    }

    private static BigInteger behind(BigInteger d, int answer) {
        return d.multiply(BigInteger.valueOf(31)).add(BigInteger.valueOf(answer));
    }
}
