/**
 * The promises 15 to 17 and 25: a test for each sentence that names a boundary case. The answers are worked out from
 * the document.
 */
public final class EdgesOfTwoRosettesTest extends Edges {
    public static void main(String[] args) {
        commonPoints();
        commonWithoutLayer();
        meetFirst();
        meetLate();
        meetNever();
        meetWithoutLayer();
        turnedSmallest();
        turnedAroundTheRing();
        turnedToNone();
        turnedWithoutLayer();
        bestStartMost();
        bestStartAmongSeveral();
        bestStartOfEqualStarts();
        bestStartWithoutLayer();
        bestStartOfTheSame();
        CHECKS.close();
    }

    /** A layer of this wheel with the hole 20 at this start, and one at the other start. */
    private static RosettePlate pair(int ring, int wheel, int start, int other) {
        RosettePlate x = new RosettePlate();
        x.setRing(ring);
        x.addLayer(wheel, 0, 20, start);
        x.addLayer(wheel, 0, 20, other);
        return x;
    }

    private interface OfTwo {
        long ask(RosettePlate x, int l, int m);
    }

    private static void withoutLayer(String what, OfTwo call) {
        for (int no : new int[] {-1, 3, 6, Integer.MIN_VALUE, Integer.MAX_VALUE}) {
            noIndex(what + "(" + no + ", 0)", x -> call.ask(x, no, 0));
            noIndex(what + "(0, " + no + ")", x -> call.ask(x, 0, no));
            noIndex(what + " of twice " + no, x -> call.ask(x, no, no));
        }
        CHECKS.refused(what + "(0, 0) of none", Checks.INDEX, Plates::bare, x -> call.ask(x, 0, 0));
        CHECKS.refused(what + "(5, 6) of six", Checks.INDEX, Plates::sixLayers, x -> call.ask(x, 5, 6));
        CHECKS.refused(what + "(6, 5) of six", Checks.INDEX, Plates::sixLayers, x -> call.ask(x, 6, 5));
    }

    // ---- Promise 15: common

    /** That E96i602000 has 448 points is worked out in EdgesOfWhatThereIsTest. */
    private static void commonPoints() {
        CHECKS.of("Promise 15", "Returns how many points are in both.");
        RosettePlate x = plateOf("E96i602000i602000o602000i050000i050100");
        due("a layer and itself", x.common(0, 0), 448);
        due("a layer and one alike", x.common(0, 1), 448);
        due("inside and around", x.common(0, 2), 0);
        due("a radius of both at all angles", x.common(3, 4), 96);
        due("a radius of both the other way round", x.common(4, 3), 96);
        due("the last layer and itself", x.common(4, 4), 192);
        // A wheel of 60 and a ring of 96 have 12 in common, so the start 12 gives the points of the start 0.
        due("a rosette turned onto itself", pair(96, 60, 0, 12).common(0, 1), 448);
        due("A and A at the other angles", plateOf("E24i100800i100801").common(0, 1), 0);
        due("the least ring, one turn", plateOf("E12i120000i120011").common(0, 1), 12);
    }

    private static void commonWithoutLayer() {
        CHECKS.of("Promise 15", "Throws `IndexOutOfBoundsException` if there is no such layer");
        withoutLayer("common", (x, l, m) -> x.common(l, m));
    }

    // ---- Promise 16: meet

    private static void meetFirst() {
        CHECKS.of("Promise 16", "Returns the first step at which both are at the same point");
        due("a layer and itself", plateOf("E24i100807").meet(0, 0), 0);
        due("a layer and one alike at the last tooth", plateOf("E24i100823i100823").meet(0, 1), 0);
        // The holes 1 and 2 of a wheel of 10: 191 190 190 and 192 191 190 are the first radii.
        due("the step 2", plateOf("E24i100100i100200").meet(0, 1), 2);
        // At u = 0 the hole 1 is at 196 and the hole 0 at 195, from u = 1 on both are at 195.
        due("the step 1", plateOf("E24i050000i050100").meet(1, 0), 1);
    }

    /**
     * The wheel of 59 comes to 142 at u = 0 only and stays below it; the one of 56 comes to 142 at u = 28 only and
     * stays above it: 59 * 28 is 28 in 56. Around and inside, 19 and 20 have only 200 in common, at u = 0 and u = 10.
     */
    private static void meetLate() {
        CHECKS.of("Promise 16", "Returns the first step at which both are at the same point");
        due("59 and 56", plateOf("E24i590100i560200").meet(0, 1), 59 * 28);
        due("56 and 59", plateOf("E24i590100i560200").meet(1, 0), 59 * 28);
        due("59 and 56 in a ring of 12 at the last tooth", plateOf("E12i590111i560211").meet(0, 1), 59 * 28);
        due("19 inside and 20 around", plateOf("E96i191995o202095").meet(0, 1), 190);
    }

    private static void meetNever() {
        CHECKS.of("Promise 16", "NONE if they never are.");
        due("other angles at each step", plateOf("E24i100800i100802").meet(0, 1), NONE);
        due("the same rosette from another start", plateOf("E24i070500i070501").meet(0, 1), NONE);
        due("the first tooth and the last", plateOf("E24i070500i070523").meet(0, 1), NONE);
        due("other radii", plateOf("E24i100800o100800").meet(0, 1), NONE);
        // The one is at 200 at u = 0 of 20, the other at u = 10 of 20.
        due("the same radius at other steps", plateOf("E24i202000o202000").meet(0, 1), NONE);
    }

    private static void meetWithoutLayer() {
        CHECKS.of("Promise 16", "Throws `IndexOutOfBoundsException` if there is no such layer");
        withoutLayer("meet", (x, l, m) -> x.meet(l, m));
    }

    // ---- Promise 17: turned

    private static void turnedSmallest() {
        CHECKS.of("Promise 17", "Returns the smallest number of teeth, 0 or more, that, added to the start of l, would"
            + " give it the rosette of m");
        due("a layer and itself", plateOf("E24i100823").turned(0, 0), 0);
        due("a layer and one alike", pair(60, 60, 59, 59).turned(0, 1), 0);
        // A wheel of 7 comes to all teeth of a ring of 24 with each u, so all its starts give one rosette.
        due("a rosette that is the same from all starts", pair(24, 7, 0, 23).turned(0, 1), 0);
        due("a layer without a hole", plateOf("E24i240000i240023").turned(0, 1), 0);
        // A wheel of 10 and a ring of 24 have 2 in common, so the start counts as even or odd.
        due("an even start to an even one", pair(24, 10, 0, 22).turned(0, 1), 0);
        due("an even start to an odd one", pair(24, 10, 0, 23).turned(0, 1), 1);
        due("an odd start to an even one", pair(24, 10, 23, 0).turned(0, 1), 1);
    }

    /** A wheel with as many teeth as the ring is at its greatest radius at its start alone. */
    private static void turnedAroundTheRing() {
        CHECKS.of("Promise 17", "Returns the smallest number of teeth, 0 or more, that, added to the start of l, would"
            + " give it the rosette of m");
        due("the first tooth to the last of 60", pair(60, 60, 0, 59).turned(0, 1), 59);
        due("the last tooth to the first of 60", pair(60, 60, 59, 0).turned(0, 1), 1);
        for (int start = 0; start < 24; start++) {
            for (int other = 0; other < 24; other++) {
                due("turned of " + start + " to " + other, pair(24, 24, start, other).turned(0, 1),
                    (other - start + 24) % 24);
            }
        }
        due("the first tooth to the last of 12", pair(12, 12, 0, 11).turned(0, 1), 11);
        // A wheel of 48 in a ring of 96 is at its greatest radius at two teeth that are 48 apart.
        due("the first tooth to the last of 96", pair(96, 48, 0, 95).turned(0, 1), 47);
        due("the last tooth to the first of 96", pair(96, 48, 95, 0).turned(0, 1), 1);
        due("the first tooth to the tooth 48", pair(96, 48, 0, 48).turned(0, 1), 0);
    }

    private static void turnedToNone() {
        CHECKS.of("Promise 17", "NONE if there is none.");
        RosettePlate x = plateOf("E24i100800i100700o100800i110800i100000i240000");
        for (int m = 1; m < 6; m++) {
            due("turned(0, " + m + ")", x.turned(0, m), NONE);
            due("turned(" + m + ", 0)", x.turned(m, 0), NONE);
        }
        // All points of the one are points of the other, which has more.
        due("a part of a rosette", plateOf("E24i050000i050100").turned(0, 1), NONE);
        due("a rosette to its part", plateOf("E24i050000i050100").turned(1, 0), NONE);
    }

    private static void turnedWithoutLayer() {
        CHECKS.of("Promise 17", "Throws `IndexOutOfBoundsException` if there is no such layer");
        withoutLayer("turned", (x, l, m) -> x.turned(l, m));
    }

    // ---- Promise 25: bestStart

    private static void bestStartMost() {
        CHECKS.of("Promise 25", "Returns the start of l with which both rosettes would have the most points in common");
        for (int start = 0; start < 24; start++) {
            RosettePlate x = pair(24, 24, (start + 11) % 24, start);
            due("beside the start " + start, x.bestStart(0, 1), start);
            due("the start of l stays", x.layer(0, 3), (start + 11) % 24);
        }
        due("beside the last tooth of 60", pair(60, 60, 0, 59).bestStart(0, 1), 59);
        due("beside the first tooth of 60", pair(60, 60, 59, 0).bestStart(0, 1), 0);
        due("beside the last tooth of 12", pair(12, 12, 0, 11).bestStart(0, 1), 11);
        due("beside another layer as l", pair(12, 12, 11, 0).bestStart(1, 0), 11);
    }

    private static void bestStartAmongSeveral() {
        CHECKS.of("Promise 25", "among several the smallest.");
        due("beside the last tooth of 96, which is as good as 47", pair(96, 48, 3, 95).bestStart(0, 1), 47);
        due("beside the tooth 48, which is as good as 0", pair(96, 48, 3, 48).bestStart(0, 1), 0);
        due("the last odd tooth is as good as 1", pair(24, 10, 4, 23).bestStart(0, 1), 1);
        due("the last even tooth is as good as 0", pair(24, 10, 5, 22).bestStart(0, 1), 0);
        due("all starts are as good", pair(24, 7, 23, 22).bestStart(0, 1), 0);
        due("all starts have all in common", plateOf("E24i240023i240023").bestStart(0, 1), 0);
        due("all starts have nothing in common", plateOf("E24i242023o242023").bestStart(0, 1), 0);
    }

    /**
     * A wheel of 24 in a ring of 24 with the hole 1 is at 177 at its start, at 175 at the tooth across, else at 176;
     * without a hole it is at 176 at all angles. So each start has 22 points in common.
     */
    private static void bestStartOfEqualStarts() {
        CHECKS.of("Promise 25", "among several the smallest.");
        RosettePlate x = plateOf("E24i240105i240017");
        due("all starts have 22 points in common", x.bestStart(0, 1), 0);
        due("the same the other way round", x.bestStart(1, 0), 0);
        due("the points in common", x.common(0, 1), 22);
    }

    private static void bestStartWithoutLayer() {
        CHECKS.of("Promise 25", "Throws `IndexOutOfBoundsException` if there is no such layer");
        withoutLayer("bestStart", (x, l, m) -> x.bestStart(l, m));
    }

    private static void bestStartOfTheSame() {
        CHECKS.of("Promise 25", "`m`: another layer .. Throws `IllegalArgumentException` if l and m are the same");
        for (int l = 0; l < 6; l++) {
            int same = l;
            CHECKS.refused("bestStart of twice " + l, Checks.ARGUMENT, Plates::sixLayers, x -> x.bestStart(same, same));
        }
        // Layers that are alike are not the same.
        due("bestStart of two alike", plateOf("E24i100800i100800").bestStart(0, 1), 0);
    }
}
