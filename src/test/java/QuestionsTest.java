/** Promises 20 to 29: what would be. */
public final class QuestionsTest {
    public static void main(String[] args) {
        isSafeWith();
        isSafeWithoutLoadOverThePlates();
        greatestLoad();
        farthestReach();
        farthestReachAsFarAsAllBefore();
        safeDirections();
        platesNeeded();
        fewestMoves();
        fewestMovesAroundWhatTips();
        fewestMovesWithoutAWay();
        plansBehindAQuestion();
        placesWithin();
        bestOutrigger();
        bestOutriggerByOneMetre();
        bestOutriggerOfThoseThatCanBeDrawn();
        meanLoad();
        digest();
        wrongLoads();
        wrongDirections();
        wrongReaches();
        Check.close();
    }

    private static void isSafeWith() {
        CraneReach x = new CraneReach();
        Check c = new Check("promise 20", x);
        c.asks("isSafeWith(30, 0, 3)", () -> x.isSafeWith(30, 0, 3), true);
        c.asks("isSafeWith(31, 0, 3), over the limit", () -> x.isSafeWith(31, 0, 3), false);
        x.setLimit(3, 60);
        c.asks("isSafeWith(40, 0, 3), with a strain of just 0", () -> x.isSafeWith(40, 0, 3), true);
        c.asks("isSafeWith(41, 0, 3)", () -> x.isSafeWith(41, 0, 3), false);
        c.asks("isSafeWith(60, 1, 3)", () -> x.isSafeWith(60, 1, 3), true);
        c.asks("isSafeWith(41, 6, 3)", () -> x.isSafeWith(41, 6, 3), false);
        x.setLimit(30, 0);
        c.asks("isSafeWith(0, 5, 30), with a limit of 0", () -> x.isSafeWith(0, 5, 30), true);
        c.asks("isSafeWith(1, 5, 30), with a limit of 0", () -> x.isSafeWith(1, 5, 30), false);
        c.asks("isSafeWith(10, 0, 6)", () -> x.isSafeWith(10, 0, 6), true);
        c.asks("isSafeWith(10, 0, 7)", () -> x.isSafeWith(10, 0, 7), false);
        c.asks("isSafeWith(10, 7, 7)", () -> x.isSafeWith(10, 7, 7), true);
        // 7 * (13 * 7 - 20) - 2 * (4 * 7 + 20) - 400 = 1.
        x.setLimit(13, 60);
        x.setPlates(1);
        c.asks("isSafeWith(7, 1, 13), with a strain of just 1", () -> x.isSafeWith(7, 1, 13), false);
    }

    private static void isSafeWithoutLoadOverThePlates() {
        CraneReach x = new CraneReach();
        Check c = new Check("promise 20", x);
        x.lift(10);
        x.setPlates(12);
        c.asks("isSafeWith(0, 0, 3)", () -> x.isSafeWith(0, 0, 3), false);
        c.asks("isSafeWith(1, 0, 3)", () -> x.isSafeWith(1, 0, 3), false);
        c.asks("isSafeWith(2, 0, 3)", () -> x.isSafeWith(2, 0, 3), true);
        c.asks("isSafeWith(0, 1, 3)", () -> x.isSafeWith(0, 1, 3), true);
    }

    private static void greatestLoad() {
        CraneReach x = new CraneReach();
        Check c = new Check("promise 21", x);
        c.asks("greatestLoad(), the limit", x::greatestLoad, 30);
        x.setLimit(3, 60);
        c.asks("greatestLoad(), before it tips", x::greatestLoad, 40);
        x.swing(1, true);
        c.asks("greatestLoad(), of all", x::greatestLoad, 60);
        x.lift(8);
        x.stretch(5, true);
        c.asks("greatestLoad(), under a load", x::greatestLoad, 11);
        x.setDown();
        x.setLimit(8, 0);
        c.asks("greatestLoad(), with a limit of 0", x::greatestLoad, 0);
        x.setLimit(8, 1);
        c.asks("greatestLoad(), with a limit of 1", x::greatestLoad, 1);

        CraneReach y = new CraneReach();
        y.lift(10);
        y.setPlates(12);
        new Check("promise 21", y).asks("greatestLoad(), not safe without", y::greatestLoad, 30);
    }

    private static void farthestReach() {
        CraneReach x = new CraneReach();
        Check c = new Check("promise 22", x);
        for (int direction = 0; direction < 8; direction++) {
            int to = direction;
            c.asks("farthestReach(10, " + to + ")", () -> x.farthestReach(10, to), to % 2 == 0 ? 6 : 8);
            c.asks("farthestReach(0, " + to + ")", () -> x.farthestReach(0, to), 30);
        }
        c.asks("farthestReach(30, 0), only at 3", () -> x.farthestReach(30, 0), 3);
        c.asks("farthestReach(31, 0), not even at 3", () -> x.farthestReach(31, 0), -1);
        c.asks("farthestReach(60, 0)", () -> x.farthestReach(60, 0), -1);
        x.stretch(9, true);
        c.asks("farthestReach(10, 0), wherever it is", () -> x.farthestReach(10, 0), 6);
    }

    private static void farthestReachAsFarAsAllBefore() {
        CraneReach x = new CraneReach();
        Check c = new Check("promise 22", x);
        x.setLimit(5, 2);
        c.asks("farthestReach(3, 0), up to a low limit", () -> x.farthestReach(3, 0), 4);
        x.setLimit(3, 2);
        c.asks("farthestReach(3, 0), none at 3", () -> x.farthestReach(3, 0), -1);
        x.setLimit(3, 30);
        x.lift(10);
        x.setPlates(12);
        c.asks("farthestReach(1, 0), over the plates at 3", () -> x.farthestReach(1, 0), -1);
        c.asks("farthestReach(0, 0), over the plates", () -> x.farthestReach(0, 0), -1);
        c.asks("farthestReach(2, 0)", () -> x.farthestReach(2, 0), 30);
    }

    private static void safeDirections() {
        CraneReach x = new CraneReach();
        Check c = new Check("promise 23", x);
        c.asks("safeDirections(5, 10)", () -> x.safeDirections(5, 10), 8);
        c.asks("safeDirections(5, 12), to the corners", () -> x.safeDirections(5, 12), 4);
        c.asks("safeDirections(10, 10), over the limit", () -> x.safeDirections(10, 10), 0);
        c.asks("safeDirections(0, 30)", () -> x.safeDirections(0, 30), 8);
        x.setOutrigger(1, 6);
        c.asks("safeDirections(5, 12), to the east as well", () -> x.safeDirections(5, 12), 5);
        x.setOutrigger(3, 6);
        c.asks("safeDirections(5, 12), to the west as well", () -> x.safeDirections(5, 12), 6);
        x.setOutrigger(3, 0);
        x.swing(2, false);
        x.lift(1);
        x.setPlates(12);
        c.asks("safeDirections(0, 3), over the plates", () -> x.safeDirections(0, 3), 5);
    }

    private static void platesNeeded() {
        CraneReach x = new CraneReach();
        Check c = new Check("promise 24", x);
        // 10 * (90 - 20) - 120 * plates - 400.
        c.asks("platesNeeded(10, 0, 9)", () -> x.platesNeeded(10, 0, 9), 3);
        c.asks("platesNeeded(10, 4, 9)", () -> x.platesNeeded(10, 4, 9), 3);
        c.asks("platesNeeded(10, 0, 6)", () -> x.platesNeeded(10, 0, 6), 0);
        c.asks("platesNeeded(0, 0, 30)", () -> x.platesNeeded(0, 0, 30), 0);
        c.asks("platesNeeded(10, 0, 10), over the limit", () -> x.platesNeeded(10, 0, 10), -1);
        x.setLimit(10, 60);
        // load * 80 - 120 * plates - 400: 12 plates hold 23 tons.
        c.asks("platesNeeded(22, 0, 10)", () -> x.platesNeeded(22, 0, 10), 12);
        c.asks("platesNeeded(23, 0, 10), all of them", () -> x.platesNeeded(23, 0, 10), 12);
        c.asks("platesNeeded(24, 0, 10), more than there are", () -> x.platesNeeded(24, 0, 10), -1);
        x.setPlates(9);
        c.asks("platesNeeded(10, 0, 9), with more on it", () -> x.platesNeeded(10, 0, 9), 3);
        c.asks("platesNeeded(0, 0, 3), with more on it", () -> x.platesNeeded(0, 0, 3), 0);
        c.asks("platesNeeded(60, 0, 30)", () -> x.platesNeeded(60, 0, 30), -1);
        x.setLimit(30, 60);
        // 6 * (210 - 20) - 96 * plates - 400.
        c.asks("platesNeeded(6, 1, 30), with a limit of 60", () -> x.platesNeeded(6, 1, 30), 8);
        x.bestOutrigger(5);
        c.asks("platesNeeded(10, 6, 9), when a farther outrigger was asked of", () -> x.platesNeeded(10, 6, 9), 3);
    }

    private static void fewestMoves() {
        CraneReach x = new CraneReach();
        Check c = new Check("promise 25", x);
        int[] turns = {0, 1, 2, 3, 4, 3, 2, 1};
        for (int direction = 0; direction < 8; direction++) {
            int to = direction;
            c.asks("fewestMoves(0, " + to + ", 3)", () -> x.fewestMoves(0, to, 3), turns[to]);
            c.asks("fewestMoves(0, " + to + ", 30)", () -> x.fewestMoves(0, to, 30), turns[to] + 27);
        }
        x.swing(3, true);
        x.stretch(7, true);
        c.asks("fewestMoves(0, 7, 12)", () -> x.fewestMoves(0, 7, 12), 6);
        c.asks("fewestMoves(0, 3, 10), where it is", () -> x.fewestMoves(0, 3, 10), 0);
        c.asks("fewestMoves(0, 0, 3)", () -> x.fewestMoves(0, 0, 3), 10);
    }

    private static void fewestMovesAroundWhatTips() {
        CraneReach x = new CraneReach();
        Check c = new Check("promise 25", x);
        x.swing(1, true);
        x.stretch(4, true);
        c.asks("fewestMoves(10, 3, 7), in, two directions, out", () -> x.fewestMoves(10, 3, 7), 4);
        c.asks("fewestMoves(10, 5, 8)", () -> x.fewestMoves(10, 5, 8), 7);
        c.asks("fewestMoves(10, 2, 7), where it tips", () -> x.fewestMoves(10, 2, 7), -1);
        x.setOutrigger(1, 6);
        c.asks("fewestMoves(10, 3, 7), two directions", () -> x.fewestMoves(10, 3, 7), 2);
        for (int metres = 3; metres <= 6; metres++) {
            x.setLimit(metres, 9);
        }
        c.asks("fewestMoves(10, 3, 7), on the only way", () -> x.fewestMoves(10, 3, 7), 2);
        c.asks("fewestMoves(10, 5, 7), cut off", () -> x.fewestMoves(10, 5, 7), -1);
    }

    private static void fewestMovesWithoutAWay() {
        CraneReach x = new CraneReach();
        Check c = new Check("promise 25", x);
        c.asks("fewestMoves(31, 0, 3), not safe now", () -> x.fewestMoves(31, 0, 3), -1);
        c.asks("fewestMoves(60, 4, 9), not safe now", () -> x.fewestMoves(60, 4, 9), -1);
        x.setLimit(4, 0);
        c.asks("fewestMoves(1, 0, 5), over a limit of 0", () -> x.fewestMoves(1, 0, 5), -1);
        c.asks("fewestMoves(1, 0, 4), at a limit of 0", () -> x.fewestMoves(1, 0, 4), -1);
        c.asks("fewestMoves(0, 0, 5), without a load", () -> x.fewestMoves(0, 0, 5), 2);
        x.setLimit(4, 22);
        x.setLimit(3, 2);
        c.asks("fewestMoves(3, 0, 4), safe but for now", () -> x.fewestMoves(3, 0, 4), -1);
        c.asks("fewestMoves(2, 0, 4)", () -> x.fewestMoves(2, 0, 4), 1);
    }

    /** The question tried twelve plates, which would tip the crane without a load. */
    private static void plansBehindAQuestion() {
        CraneReach x = new CraneReach();
        Check c = new Check("promises 25 and 26", x);
        c.asks("platesNeeded(60, 0, 30), more than there are", () -> x.platesNeeded(60, 0, 30), -1);
        c.asks("fewestMoves(0, 0, 4)", () -> x.fewestMoves(0, 0, 4), 1);
        c.asks("placesWithin(0)", () -> x.placesWithin(0), 224);
    }

    private static void placesWithin() {
        CraneReach x = new CraneReach();
        Check c = new Check("promise 26", x);
        c.asks("placesWithin(0), all of them", () -> x.placesWithin(0), 224);
        c.asks("placesWithin(10), 4 at each side, 6 at each corner", () -> x.placesWithin(10), 40);
        c.asks("placesWithin(30), at 3", () -> x.placesWithin(30), 8);
        c.asks("placesWithin(31), not safe now", () -> x.placesWithin(31), 0);
        c.asks("placesWithin(60), not safe now", () -> x.placesWithin(60), 0);
        x.setLimit(5, 0);
        c.asks("placesWithin(1), up to a limit of 0", () -> x.placesWithin(1), 16);
        x.stretch(5, true);
        c.asks("placesWithin(10), where it would tip now", () -> x.placesWithin(10), 0);
        x.swing(1, true);
        c.asks("placesWithin(10), from 6 on", () -> x.placesWithin(10), 16);
        c.asks("placesWithin(0)", () -> x.placesWithin(0), 224);
        x.stretch(22, true);
        x.setLimit(29, 0);
        x.setLimit(30, 1);
        x.setOutrigger(0, 6);
        x.setOutrigger(1, 6);
        c.asks("placesWithin(1), of now and around it", () -> x.placesWithin(1), 8);
        x.setLimit(30, 2);
        c.asks("placesWithin(2), but for the corner that is cut off", () -> x.placesWithin(2), 5);
        c.asks("isSafeWith(2, 5, 30), at that corner", () -> x.isSafeWith(2, 5, 30), true);
    }

    private static void bestOutrigger() {
        CraneReach x = new CraneReach();
        Check c = new Check("promise 27", x);
        c.asks("bestOutrigger(10), all alike", () -> x.bestOutrigger(10), 0);
        c.asks("bestOutrigger(60), with no places at all", () -> x.bestOutrigger(60), 0);
        x.stretch(4, true);
        int[] due = {0, 0, 1, 0, 2, 0, 3, 0};
        for (int direction = 0; direction < 8; direction++) {
            int at = direction;
            c.asks("bestOutrigger(10) at direction " + at, () -> x.bestOutrigger(10), due[at]);
            c.asks("bestOutrigger(5) at direction " + at, () -> x.bestOutrigger(5), 0);
            x.swing(1, true);
        }
        x.setOutrigger(0, 1);
        c.asks("bestOutrigger(5), not the widest side", () -> x.bestOutrigger(5), 1);
        int[][] feet = {{0, 2, 2, 2}, {2, 0, 2, 2}, {2, 2, 0, 2}, {2, 2, 2, 0}};
        for (int side = 0; side < 4; side++) {
            CraneReach y = new CraneReach();
            for (int at = 0; at < 4; at++) {
                y.setOutrigger(at, feet[side][at]);
            }
            int best = side;
            Check d = new Check("promise 27", y);
            d.asks("bestOutrigger(8) for narrow side " + side, () -> y.bestOutrigger(8), best);
            y.lift(8);
            d.asks("bestOutrigger(8) under a load, narrow side " + side, () -> y.bestOutrigger(8), best);
        }
    }

    /** By 1, north and south gain a place each; by 2, south would gain two. */
    private static void bestOutriggerByOneMetre() {
        CraneReach x = new CraneReach();
        Check c = new Check("promise 27", x);
        x.setOutrigger(0, 1);
        x.setOutrigger(1, 2);
        x.setLimit(13, 60);
        x.swing(1, true);
        x.stretch(10, true);
        c.asks("placesWithin(8)", () -> x.placesWithin(8), 2);
        c.asks("bestOutrigger(8)", () -> x.bestOutrigger(8), 0);
        c.does("setOutrigger(2, 1)", () -> x.setOutrigger(2, 1), 0);
        c.asks("placesWithin(8), with south out by 1", () -> x.placesWithin(8), 3);
        c.does("setOutrigger(2, 2)", () -> x.setOutrigger(2, 2), 1);
        c.asks("placesWithin(8), with south out by 2", () -> x.placesWithin(8), 4);
    }

    private static void bestOutriggerOfThoseThatCanBeDrawn() {
        CraneReach x = new CraneReach();
        Check c = new Check("promise 27", x);
        x.setOutrigger(0, 6);
        c.asks("bestOutrigger(60), without north", () -> x.bestOutrigger(60), 1);
        x.setOutrigger(1, 6);
        c.asks("bestOutrigger(60), without east", () -> x.bestOutrigger(60), 2);
        x.setOutrigger(2, 6);
        c.asks("bestOutrigger(60), without south", () -> x.bestOutrigger(60), 3);
        x.setOutrigger(3, 5);
        c.asks("bestOutrigger(5), by the last metre", () -> x.bestOutrigger(5), 3);
        x.setOutrigger(3, 6);
        c.asks("bestOutrigger(5), all drawn out", () -> x.bestOutrigger(5), -1);
        c.asks("bestOutrigger(60), all drawn out", () -> x.bestOutrigger(60), -1);
        c.asks("bestOutrigger(0), all drawn out", () -> x.bestOutrigger(0), -1);
    }

    private static void meanLoad() {
        CraneReach x = new CraneReach();
        Check c = new Check("promise 28", x);
        c.asks("meanLoad(), without any", x::meanLoad, 0.0);
        x.lift(8);
        c.asks("meanLoad()", x::meanLoad, 8.0);
        x.setDown();
        x.lift(1);
        x.setDown();
        c.asks("meanLoad()", x::meanLoad, 4.5);
        x.lift(25);
        c.asks("meanLoad()", x::meanLoad, 34.0 / 3.0);
    }

    private static void digest() {
        CraneReach x = new CraneReach();
        Check c = new Check("promise 29", x);
        c.asks("digest()", x::digest, 2067878927873049345L);
        x.setOutrigger(0, 4);
        x.setOutrigger(3, 1);
        x.setPlates(2);
        x.setLimit(11, 5);
        c.asks("digest(), of the answers", x::digest, digestOfAnswers(x));
        x.lift(7);
        x.swing(5, false);
        x.stretch(2, true);
        c.asks("digest(), of the answers under a load", x::digest, digestOfAnswers(x));
        x.setDown();
        c.asks("digest(), of the answers", x::digest, digestOfAnswers(x));
    }

    private static long digestOfAnswers(CraneReach x) {
        int[] told = {x.direction(), x.reach(), x.load(), x.plates(), x.weakestSide(), x.lifts(), x.tonsLifted(),
            x.movesWithLoad(), x.greatestLoad()};
        long d = 1907;
        for (int answer : told) {
            d = d * 31 + answer;
        }
        for (int side = 0; side < 4; side++) {
            d = (d * 31 + x.outrigger(side)) * 31 + x.strainOn(side);
        }
        for (int reach = 3; reach <= 30; reach++) {
            d = (d * 31 + x.limitAt(reach)) * 31 + x.safeDirections(5, reach);
        }
        return d;
    }

    private static final int[] NO_LOADS = {-1, 61, Integer.MIN_VALUE, -1000, 1000, Integer.MAX_VALUE};
    private static final int[] NO_DIRECTIONS = {-1, 8, Integer.MIN_VALUE, -1000, 1000, Integer.MAX_VALUE};
    private static final int[] NO_REACHES = {2, 31, 0, -3, Integer.MIN_VALUE, -1000, 1000, Integer.MAX_VALUE};

    private static void wrongLoads() {
        CraneReach x = new CraneReach();
        Check c = new Check("promises 20 to 27", x);
        for (int load : NO_LOADS) {
            String told = "(" + load + ", ..)";
            c.asks("isSafeWith" + told, () -> x.isSafeWith(load, 0, 3), Check.ARGUMENT);
            c.asks("farthestReach" + told, () -> x.farthestReach(load, 0), Check.ARGUMENT);
            c.asks("safeDirections" + told, () -> x.safeDirections(load, 3), Check.ARGUMENT);
            c.asks("platesNeeded" + told, () -> x.platesNeeded(load, 0, 3), Check.ARGUMENT);
            c.asks("fewestMoves" + told, () -> x.fewestMoves(load, 0, 3), Check.ARGUMENT);
            c.asks("placesWithin" + told, () -> x.placesWithin(load), Check.ARGUMENT);
            c.asks("bestOutrigger" + told, () -> x.bestOutrigger(load), Check.ARGUMENT);
        }
    }

    private static void wrongDirections() {
        for (int direction : NO_DIRECTIONS) {
            CraneReach x = new CraneReach();
            Check c = new Check("promises 20 to 25", x);
            for (int load : new int[] {0, 60, -1, 61}) {
                String told = "(" + load + ", " + direction + ", ..)";
                c.asks("farthestReach" + told, () -> x.farthestReach(load, direction), Check.INDEX);
                for (int reach : new int[] {3, 30, 2, 31}) {
                    c.asks("isSafeWith" + told, () -> x.isSafeWith(load, direction, reach), Check.INDEX);
                    c.asks("platesNeeded" + told, () -> x.platesNeeded(load, direction, reach), Check.INDEX);
                    c.asks("fewestMoves" + told, () -> x.fewestMoves(load, direction, reach), Check.INDEX);
                }
            }
        }
    }

    private static void wrongReaches() {
        for (int reach : NO_REACHES) {
            CraneReach x = new CraneReach();
            Check c = new Check("promises 20 to 25", x);
            for (int load : new int[] {0, 60, -1, 61}) {
                String told = "(" + load + ", .. " + reach + ")";
                c.asks("isSafeWith" + told, () -> x.isSafeWith(load, 7, reach), Check.ARGUMENT);
                c.asks("safeDirections" + told, () -> x.safeDirections(load, reach), Check.ARGUMENT);
                c.asks("platesNeeded" + told, () -> x.platesNeeded(load, 7, reach), Check.ARGUMENT);
                c.asks("fewestMoves" + told, () -> x.fewestMoves(load, 7, reach), Check.ARGUMENT);
            }
        }
    }
}
