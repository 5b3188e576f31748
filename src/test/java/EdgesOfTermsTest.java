import java.util.List;
import java.util.function.ToLongFunction;

/**
 * "Terms" (all but the text, which is in EdgesOfTextTest): a test for each sentence that names a boundary case. The
 * answers are worked out from the document.
 */
public final class EdgesOfTermsTest extends Edges {
    public static void main(String[] args) {
        ringsOfTwelveToNinetySix();
        teethGoAround();
        atMostSixLayers();
        numbersOfALayer();
        newObject();
        stepsBeginWithZero();
        anglesGoAround();
        stepsAreGreat();
        stepsOfTheWheelBeginAgain();
        radiiOfBothSides();
        quotientsAreRoundedTowardsZero();
        pointsAreCountedOnce();
        periods();
        turnsAndLobes();
        atMostEightSightings();
        fits();
        textAndSlotsAreNoState();
        actionsThatChangeNothing();
        undoIsNoAction();
        stateBeforeEachAction();
        atMostFourteenStates();
        loadAndRestoreAreNoActions();
        whatDoesNotExist();
        whatIsOutOfRange();
        statesThatAreWrong();
        severalExceptions();
        noSuchResult();
        asking();
        askingAfterAsking();
        lastCall();
        CHECKS.close();
    }

    // ---- the ring and the layers

    private static void ringsOfTwelveToNinetySix() {
        CHECKS.of("Terms, the ring and the layers", "The ring has 12 to 96 teeth, numbered from 0 around.");
        RosettePlate x = new RosettePlate();
        due("setRing(12)", x.setRing(12), 24);
        due("the ring then", x.about(0), 12);
        due("setRing(96)", x.setRing(96), 12);
        due("the ring then", x.about(0), 96);
        noArgument("setRing(11)", y -> y.setRing(11));
        noArgument("setRing(97)", y -> y.setRing(97));
        due("a ring of 12 in a text", plateOf("E12").about(0), 12);
        due("a ring of 96 in a text", plateOf("E96").about(0), 96);
    }

    /** A wheel of 5 without a hole has all its points at the radius 195. */
    private static void teethGoAround() {
        CHECKS.of("Terms, the ring and the layers", "The ring has 12 to 96 teeth, numbered from 0 around.");
        RosettePlate least = plateOf("E12i050011");
        due("the last tooth of 12", least.pen(0, 0), 11195);
        due("the tooth behind it", least.pen(0, 1), 195);
        due("once around 12", least.pen(0, 12), 11195);
        RosettePlate most = plateOf("E96i050095");
        due("the last tooth of 96", most.pen(0, 0), 95195);
        due("the tooth behind it", most.pen(0, 1), 195);
        due("once around 96", most.pen(0, 96), 95195);
    }

    private static void atMostSixLayers() {
        CHECKS.of("Terms, the ring and the layers",
            "There are at most 6 layers, numbered from 0 in the order in which they were added.");
        RosettePlate x = new RosettePlate();
        for (int l = 0; l < 6; l++) {
            due("the number of the layer " + l, x.addLayer(30 - l, 0, 0, 0), l);
        }
        for (int l = 0; l < 6; l++) {
            due("the wheel of the layer " + l, x.layer(l, 0), 30 - l);
        }
        CHECKS.due("addLayer of a seventh", () -> x.addLayer(5, 0, 0, 0), Checks.STATE);
        due("layers then", x.about(1), 6);
        due("a script with a seventh", x.runScript(1, 40050), 0);
        x.remove(3);
        due("a script with a sixth", x.runScript(1, 40050), NONE);
        due("a script with a sixth and a seventh", x.runScript(2, 4005040050L), 1);
        due("a sixth again", x.addLayer(5, 0, 0, 0), 5);
        CHECKS.due("a seventh again", () -> x.addLayer(5, 0, 0, 0), Checks.STATE);
    }

    private static void numbersOfALayer() {
        CHECKS.of("Terms, the ring and the layers", "A layer has a wheel of 5 to 60 teeth, a side (0: the wheel rolls"
            + " inside the ring, 1: around it), a hole from 0 to 20, and a start, a tooth of the ring.");
        RosettePlate x = new RosettePlate();
        int[][] edges = {{5, 0, 0, 0}, {60, 1, 20, 23}};
        for (int l = 0; l < edges.length; l++) {
            due("addLayer", x.addLayer(edges[l][0], edges[l][1], edges[l][2], edges[l][3]), l);
            for (int what = 0; what < 4; what++) {
                due("layer(" + l + ", " + what + ")", x.layer(l, what), edges[l][what]);
            }
        }
        // Inside the wheel of 5 stays at 200 - 5, around it the one of 60 begins at 200 + 60 + 20.
        due("the pen inside", x.pen(0, 0), 195);
        due("the pen around", x.pen(1, 0), 23280);
        int[][] beside = {{4, 0, 0, 0}, {61, 0, 0, 0}, {5, -1, 0, 0}, {5, 2, 0, 0}, {5, 0, -1, 0}, {5, 0, 21, 0},
            {5, 0, 0, -1}, {5, 0, 0, 30}};
        for (int[] v : beside) {
            noArgument("addLayer(" + v[0] + ", " + v[1] + ", " + v[2] + ", " + v[3] + ")",
                y -> y.addLayer(v[0], v[1], v[2], v[3]));
        }
    }

    private static void newObject() {
        CHECKS.of("Terms, the ring and the layers", "A new object has a ring of 24 teeth and no layers.");
        RosettePlate x = new RosettePlate();
        due("the ring", x.about(0), 24);
        due("the layers", x.about(1), 0);
        CHECKS.due("the layer 0", () -> x.layer(0, 0), Checks.INDEX);
        CHECKS.due("the tooth 24", () -> x.see(24, 0), Checks.ARGUMENT);
        due("the tooth 23", x.see(23, 0), 0);
    }

    // ---- rosettes

    private static void stepsBeginWithZero() {
        CHECKS.of("Terms, rosettes", "The pen of a layer goes by steps t = 0, 1, 2, and so on.");
        RosettePlate x = plateOf("E24i100807");
        due("the step 0", x.pen(0, 0), 7198);
        due("the step 1", x.pen(0, 1), 8194);
        due("the point of the step 0", x.comes(0, 7, 198), 0);
        noArgument("the step -1", y -> y.pen(0, -1));
    }

    private static void anglesGoAround() {
        CHECKS.of("Terms, rosettes", "At the step t the pen is at the angle (start + t, however great t is), taken as"
            + " the remainder by the teeth of the ring");
        RosettePlate x = plateOf("E24i240023i240000");
        for (int t = 0; t < 100; t++) {
            due("angle of the start 23 at " + t, x.pen(0, t) / 1000, (23 + t) % 24);
            due("angle of the start 0 at " + t, x.pen(1, t) / 1000, t % 24);
        }
    }

    /** 2 to the 63rd less 1 leaves 7 in 10, 12, 24 and 60 and 31 in 96; with a start it is more than any long. */
    private static void stepsAreGreat() {
        CHECKS.of("Terms, rosettes", "At the step t the pen is at the angle (start + t, however great t is)");
        RosettePlate x = plateOf("E24i100823");
        due("the greatest step", x.pen(0, Long.MAX_VALUE), 1000 * ((23 + 7) % 24) + 189);
        due("the greatest step but one", x.pen(0, Long.MAX_VALUE - 1), 1000 * ((23 + 6) % 24) + 186);
        due("the greatest step less 23", x.pen(0, Long.MAX_VALUE - 23), 1000 * ((23 + 8) % 24) + 186);
        // The wheel of 60 around the ring, hole 20, at u = 7: 260 + 20 * (2 * 46 - 60) / 60.
        due("the greatest step in 96", plateOf("E96o602095").pen(0, Long.MAX_VALUE), 1000 * (126 % 96) + 270);
        due("the greatest step in 12", plateOf("E12i120011").pen(0, Long.MAX_VALUE), 1000 * (18 % 12) + 188);
        // 2 to the 31st leaves 8 in 24 and 8 in 10.
        due("a step that is no int", x.pen(0, 1L << 31), 1000 * ((23 + 8) % 24) + 191);
        due("the greatest int", x.pen(0, Integer.MAX_VALUE), 1000 * ((23 + 7) % 24) + 189);
        // 2 to the 32nd leaves 16 in 24 and 6 in 10.
        due("a step of 33 bits", x.pen(0, 1L << 32), 1000 * ((23 + 16) % 24) + 186);
    }

    private static void stepsOfTheWheelBeginAgain() {
        CHECKS.of("Terms, rosettes", "u the remainder of t divided by w");
        RosettePlate x = plateOf("E96i052000i602000");
        // 195 + 20 * 5 / 5, 195 + 20 * 1 / 5, 195 - 20 * 3 / 5, and so on.
        int[] five = {215, 199, 183, 183, 199};
        for (int t = 0; t < 16; t++) {
            due("radius of a wheel of 5 at " + t, x.pen(0, t) % 1000, five[t % 5]);
        }
        // 140 + 20 * (2 * 58 - 60) / 60 at the last tooth of the wheel.
        due("radius of a wheel of 60 at 59", x.pen(1, 59), 59158);
        due("radius of a wheel of 60 at 60", x.pen(1, 60), 60160);
        due("radius of a wheel of 60 at 61", x.pen(1, 61), 61158);
    }

    private static void radiiOfBothSides() {
        CHECKS.of("Terms, rosettes", "and at the radius (200 - w for the side 0, 200 + w for the side 1)"
            + " + (hole * (2 * |2 * u - w| - w)) / w");
        RosettePlate x = plateOf("E24i050000o050000i600000o600000");
        int[] want = {195, 205, 140, 260};
        for (int l = 0; l < want.length; l++) {
            for (int t = 0; t < 60; t++) {
                due("the radius without a hole, layer " + l, x.pen(l, t) % 1000, want[l]);
            }
        }
        // At u = 0 the hole is added, at half the turn of an even wheel it is taken away.
        for (int hole = 0; hole <= 20; hole++) {
            RosettePlate y = new RosettePlate();
            y.addLayer(60, 0, hole, 0);
            y.addLayer(60, 1, hole, 0);
            due("inside, u = 0, hole " + hole, y.pen(0, 0) % 1000, 140 + hole);
            due("inside, u = 30, hole " + hole, y.pen(0, 30) % 1000, 140 - hole);
            due("around, u = 0, hole " + hole, y.pen(1, 0) % 1000, 260 + hole);
            due("around, u = 30, hole " + hole, y.pen(1, 30) % 1000, 260 - hole);
        }
    }

    private static void quotientsAreRoundedTowardsZero() {
        CHECKS.of("Terms, rosettes", "where the quotient is rounded towards 0.");
        RosettePlate x = plateOf("E24i050100o050100i602000o602000i592000");
        // Hole 1: 1 * 5 / 5, 1 * 1 / 5 and 1 * -3 / 5, of which the last two are 0.
        int[] one = {1, 0, 0, 0, 0};
        for (int u = 0; u < 5; u++) {
            due("inside, hole 1, u = " + u, x.pen(0, u) % 1000, 195 + one[u]);
            due("around, hole 1, u = " + u, x.pen(1, u) % 1000, 205 + one[u]);
        }
        due("the smallest radius with the hole 1", x.layer(0, 8), 195);
        // Hole 20, wheel 60: 20 * (2 * |2 * u - 60| - 60) / 60.
        int[][] sixty = {{0, 20}, {1, 18}, {14, 1}, {15, 0}, {16, -1}, {29, -18}, {30, -20}, {31, -18}, {45, 0}};
        for (int[] v : sixty) {
            due("inside, hole 20, u = " + v[0], x.pen(2, v[0]) % 1000, 140 + v[1]);
            due("around, hole 20, u = " + v[0], x.pen(3, v[0]) % 1000, 260 + v[1]);
        }
        // An odd wheel comes only to 20 * (2 * 1 - 59) / 59, which is -19 and a bit.
        due("inside, an odd wheel, u = 29", x.pen(4, 29) % 1000, 141 - 19);
        due("inside, an odd wheel, u = 30", x.pen(4, 30) % 1000, 141 - 19);
        due("the smallest radius of an odd wheel", x.layer(4, 8), 122);
    }

    private static void pointsAreCountedOnce() {
        CHECKS.of("Terms, rosettes", "The rosette of a layer is the set of all its points.");
        // Without a hole the radius stays, so the 120 steps come to 24 points.
        RosettePlate x = plateOf("E24i100000");
        due("points of a layer", x.layer(0, 7), 24);
        due("points of the plate", x.about(3), 24);
        due("points at the radius", x.at(190), 24);
        due("points in common with itself", x.common(0, 0), 24);
        due("points of two layers alike", plateOf("E24i100000i100013").about(3), 24);
        // In a ring of 12 the wheel of 12 is at one radius at each angle: no point is met twice.
        due("points that are met once", plateOf("E12i122000").layer(0, 7), 12);
    }

    private static void periods() {
        CHECKS.of("Terms, rosettes", "The period of a layer is the smallest number of steps above 0 that is a multiple"
            + " of the teeth of the ring and of those of the wheel: behind so many steps it closes.");
        long[][] want = {{24, 24, 24}, {24, 12, 24}, {24, 48, 48}, {24, 7, 168}, {24, 10, 120}, {12, 5, 60},
            {12, 60, 60}, {12, 12, 12}, {96, 59, 5664}, {96, 60, 480}, {96, 5, 480}, {95, 59, 5605}, {89, 60, 5340}};
        for (long[] w : want) {
            RosettePlate x = new RosettePlate();
            x.setRing((int) w[0]);
            x.addLayer((int) w[1], 0, 20, (int) w[0] - 1);
            due("period of " + w[1] + " in " + w[0], x.layer(0, 4), w[2]);
            due("the pen behind it", x.pen(0, w[2]), x.pen(0, 0));
            due("the pen behind it and one step", x.pen(0, w[2] + 1), x.pen(0, 1));
        }
    }

    private static void turnsAndLobes() {
        CHECKS.of("Terms, rosettes", "Its turns are its period divided by the teeth of the ring, its lobes its period"
            + " divided by the teeth of the wheel.");
        long[][] want = {{24, 24, 1, 1}, {24, 12, 1, 2}, {24, 48, 2, 1}, {24, 7, 7, 24}, {24, 10, 5, 12}, {12, 5, 5, 12},
            {12, 60, 5, 1}, {96, 59, 59, 96}, {96, 6, 1, 16}, {89, 60, 60, 89}, {95, 5, 1, 19}};
        for (long[] w : want) {
            RosettePlate x = new RosettePlate();
            x.setRing((int) w[0]);
            x.addLayer((int) w[1], 1, 20, 0);
            due("turns of " + w[1] + " in " + w[0], x.layer(0, 5), w[2]);
            due("lobes of " + w[1] + " in " + w[0], x.layer(0, 6), w[3]);
        }
    }

    // ---- sightings

    private static void atMostEightSightings() {
        CHECKS.of("Terms, sightings", "At most 8 sightings are kept, points that were seen on a note.");
        RosettePlate x = new RosettePlate();
        for (int i = 0; i < 8; i++) {
            x.see(i, 100 + i);
            due("sightings after " + (i + 1), x.about(2), i + 1);
        }
        for (int i = 8; i < 30; i++) {
            x.see(i % 24, 100 + i);
            due("sightings after " + (i + 1), x.about(2), 8);
            due("the oldest one after " + (i + 1), x.sighting(0, 1), 100 + i - 7);
            due("the newest one after " + (i + 1), x.sighting(7, 1), 100 + i);
        }
        CHECKS.due("sighting(8, 0)", () -> x.sighting(8, 0), Checks.INDEX);
    }

    private static void fits() {
        CHECKS.of("Terms, sightings",
            "A layer fits them if all of them are points of its rosette (it does if there are none).");
        String eight = "s00198s01194s02191s03189s04186s05182s06186";
        due("no sightings", plateOf("E24i100800o602000").about(6), 2);
        due("no sightings and no layers", new RosettePlate().about(6), 0);
        due("all of eight are points", plateOf("E24i100800" + eight + "s07189").about(6), 1);
        due("all but the newest are points", plateOf("E24i100800" + eight + "s07190").about(6), 0);
        due("all but the oldest are points", plateOf("E24i100800s00199s07189" + eight.substring(6)).about(6), 0);
        due("all but one between are points",
            plateOf("E24i100800" + eight.replace("s03189", "s04189") + "s07189").about(6), 0);
        // The angle 24 is the angle 0 again, at which the even radii of this layer are.
        due("a point of a later turn", plateOf("E24i100800s00186").about(6), 1);
        due("a radius of the layer, but not at this angle", plateOf("E24i100800s00189").about(6), 0);
        due("the same point eight times", plateOf("E24i100800" + "s00198".repeat(8)).about(6), 1);
    }

    // ---- actions and undo

    private static void textAndSlotsAreNoState() {
        CHECKS.of("Terms, actions and undo",
            "change the state, which consists of everything but the text and the save slots.");
        RosettePlate x = new RosettePlate();
        x.setRing(30);
        Checks.type(x, "E12");
        x.save(1);
        due("undo", x.undo(), 0);
        due("the ring is of the state", x.about(0), 24);
        due("the text is not", x.errorPosition(), NONE);
        due("a save slot is not", x.restore(1), 0);
        due("the ring of the slot", x.about(0), 30);
        due("the length of the text", x.clearText(), 3);
        x.addLayer(9, 0, 0, 0);
        x.see(3, 3);
        x.undo();
        due("sightings are of the state", x.about(2), 0);
        x.undo();
        due("layers are of the state", x.about(1), 0);
    }

    private static void actionsThatChangeNothing() {
        CHECKS.of("Terms, actions and undo", "Each call of one of them that does not throw an exception is an action,"
            + " also if nothing becomes different (undo is none).");
        RosettePlate x = plateOf("E24i100800" + "s00198".repeat(8));
        String before = Checks.view(x);
        x.setRing(24);
        for (int what = 0; what < 4; what++) {
            x.change(0, what, x.layer(0, what));
        }
        x.see(0, 198);
        CHECKS.same("the state after six actions", Checks.view(x), before);
        x.forget();
        x.forget();
        for (int left = 7; left >= 0; left--) {
            due("undo to " + left, x.undo(), left);
            due("sightings with " + left, x.about(2), left == 7 ? 0 : 8);
        }
        CHECKS.due("undo of nothing", x::undo, Checks.STATE);
        CHECKS.same("the state at the end", Checks.view(x), before);
    }

    private static void undoIsNoAction() {
        CHECKS.of("Terms, actions and undo", "(undo is none)");
        RosettePlate x = new RosettePlate();
        x.setRing(30);
        x.setRing(40);
        due("undo", x.undo(), 1);
        due("undo again goes on back", x.undo(), 0);
        due("the ring", x.about(0), 24);
        CHECKS.due("undo of an undo", x::undo, Checks.STATE);
    }

    private static void stateBeforeEachAction() {
        CHECKS.of("Terms, actions and undo", "Before each action, the state is remembered.");
        RosettePlate x = plateOf("E24i100800o160423s23198s00198");
        String[] before = new String[6];
        before[0] = Checks.view(x);
        x.setRing(12);
        before[1] = Checks.view(x);
        x.addLayer(60, 1, 20, 11);
        before[2] = Checks.view(x);
        x.change(0, 0, 5);
        before[3] = Checks.view(x);
        x.remove(0);
        before[4] = Checks.view(x);
        x.see(11, 300);
        before[5] = Checks.view(x);
        x.forget();
        for (int i = 5; i >= 0; i--) {
            due("undo to " + i, x.undo(), i);
            CHECKS.same("the state ahead of the action " + i, Checks.view(x), before[i]);
        }
    }

    private static void atMostFourteenStates() {
        CHECKS.of("Terms, actions and undo",
            "At most 14 states are remembered; when one more is remembered, the oldest one is forgotten.");
        // The action i takes a ring of 12 + i teeth; ahead of the first one there is the ring of 24.
        for (int actions : new int[] {1, 13, 14, 15, 16, 27, 28, 29, 42, 43}) {
            RosettePlate x = new RosettePlate();
            for (int i = 0; i < actions; i++) {
                x.setRing(12 + i);
            }
            int kept = Math.min(actions, 14);
            for (int back = 1; back <= kept; back++) {
                due("undo " + back + " of " + actions, x.undo(), kept - back);
                due("the ring then", x.about(0), back == actions ? 24 : 12 + actions - back - 1);
            }
            CHECKS.due("one undo too many of " + actions, x::undo, Checks.STATE);
        }
    }

    private static void loadAndRestoreAreNoActions() {
        CHECKS.of("Terms, actions and undo", "load and restore are not actions.");
        RosettePlate x = new RosettePlate();
        Checks.type(x, "E40");
        x.load();
        CHECKS.due("undo behind load", x::undo, Checks.STATE);
        x.setRing(41);
        due("undo of the first action behind load", x.undo(), 0);
        due("the ring then", x.about(0), 40);
        x.save(0);
        x.setRing(42);
        x.restore(0);
        CHECKS.due("undo behind restore", x::undo, Checks.STATE);
        x.setRing(43);
        due("undo of the first action behind restore", x.undo(), 0);
        due("the ring then", x.about(0), 40);
    }

    // ---- exceptions

    private static void whatDoesNotExist() {
        CHECKS.of("Terms, exceptions", "IndexOutOfBoundsException means that a layer or a sighting does not exist, or"
            + " that a save slot is not 0 or 1.");
        // Plates.rich has the layers 0 to 2 and the sightings 0 to 2; Plates.bare has none.
        for (int no : new int[] {-1, 3}) {
            noIndex("layer " + no, x -> x.layer(no, 0));
            noIndex("pen " + no, x -> x.pen(no, 0));
            noIndex("comes " + no, x -> x.comes(no, 0, 0));
            noIndex("sighting " + no, x -> x.sighting(no, 0));
            noIndex("common " + no, x -> x.common(no, 2));
            noIndex("common with " + no, x -> x.common(2, no));
            noIndex("meet " + no, x -> x.meet(no, 2));
            noIndex("meet with " + no, x -> x.meet(2, no));
            noIndex("turned " + no, x -> x.turned(no, 2));
            noIndex("turned to " + no, x -> x.turned(2, no));
            noIndex("change " + no, x -> x.change(no, 0, 5));
            noIndex("remove " + no, x -> x.remove(no));
            noIndex("bestStart " + no, x -> x.bestStart(no, 2));
            noIndex("bestStart beside " + no, x -> x.bestStart(2, no));
        }
        noIndex("save(-1)", x -> x.save(-1));
        noIndex("save(2)", x -> x.save(2));
        noIndex("restore(-1)", x -> x.restore(-1));
        noIndex("restore(2)", x -> x.restore(2));
        CHECKS.refused("sighting(0, 0) of none", Checks.INDEX, Plates::bare, x -> x.sighting(0, 0));
        CHECKS.refused("layer(0, 0) of none", Checks.INDEX, Plates::bare, x -> x.layer(0, 0));
        CHECKS.refused("remove(0) of none", Checks.INDEX, Plates::bare, x -> x.remove(0));
    }

    /** In Plates.rich the ring has 30 teeth, the least and the greatest arguments that are there do not throw. */
    private static void whatIsOutOfRange() {
        CHECKS.of("Terms, exceptions", "IllegalArgumentException means that another argument is out of its range.");
        noArgument("append(-1)", x -> x.append(-1));
        noArgument("append(256)", x -> x.append(256));
        noArgument("about(7)", x -> x.about(7));
        noArgument("layer(2, 10)", x -> x.layer(2, 10));
        noArgument("pen(2, -1)", x -> x.pen(2, -1));
        noArgument("comes(2, 30, 0)", x -> x.comes(2, 30, 0));
        noArgument("comes(2, 0, 301)", x -> x.comes(2, 0, 301));
        noArgument("at(301)", x -> x.at(301));
        noArgument("order(-1)", x -> x.order(-1));
        noArgument("sighting(2, 3)", x -> x.sighting(2, 3));
        noArgument("change(2, 4, 0)", x -> x.change(2, 4, 0));
        noArgument("change(2, 3, 30)", x -> x.change(2, 3, 30));
        noArgument("see(30, 0)", x -> x.see(30, 0));
        noArgument("see(0, 301)", x -> x.see(0, 301));
        noArgument("wheels(0, 0, 30, 0)", x -> x.wheels(0, 0, 30, 0));
        noArgument("wheelFor(61)", x -> x.wheelFor(61));
        noArgument("runScript(4, 0)", x -> x.runScript(4, 0));
        noArgument("simulate(0, 201)", x -> x.simulate(0, 201));
        RosettePlate x = Plates.rich();
        due("comes(2, 29, 300)", x.comes(2, 29, 300), NONE);
        due("change(2, 3, 29)", x.change(2, 3, 29), 29);
        due("see(29, 300)", x.see(29, 300), 0);
        due("wheels(1, 20, 29, 2)", x.wheels(1, 20, 29, 2), NONE);
    }

    private static void statesThatAreWrong() {
        CHECKS.of("Terms, exceptions", "IllegalStateException means what the method says.");
        CHECKS.refused("append to a full text", Checks.STATE, Plates::fullText, x -> x.append('E'));
        CHECKS.refused("load of no text", Checks.STATE, RosettePlate::new, RosettePlate::load);
        CHECKS.refused("addLayer to six", Checks.STATE, Plates::sixLayers, x -> x.addLayer(5, 0, 0, 0));
        CHECKS.refused("undo of nothing", Checks.STATE, RosettePlate::new, RosettePlate::undo);
        CHECKS.refused("restore of nothing", Checks.STATE, RosettePlate::new, x -> x.restore(0));
    }

    private static void severalExceptions() {
        CHECKS.of("Terms, exceptions",
            "If several exceptions apply to a call, the one that its description names first is thrown.");
        CHECKS.refused("append(256) to a full text", Checks.ARGUMENT, Plates::fullText, x -> x.append(256));
        CHECKS.refused("append(-1) to a full text", Checks.ARGUMENT, Plates::fullText, x -> x.append(-1));
        noIndex("layer(3, 10)", x -> x.layer(3, 10));
        noIndex("layer(-1, -1)", x -> x.layer(-1, -1));
        noIndex("pen(3, -1)", x -> x.pen(3, -1));
        noIndex("comes(3, 30, 0)", x -> x.comes(3, 30, 0));
        noIndex("comes(3, 0, 301)", x -> x.comes(3, 0, 301));
        noIndex("sighting(3, 3)", x -> x.sighting(3, 3));
        noIndex("change(3, 4, 0)", x -> x.change(3, 4, 0));
        noIndex("change(3, 0, 61)", x -> x.change(3, 0, 61));
        noIndex("bestStart(3, 3)", x -> x.bestStart(3, 3));
        noIndex("bestStart(-1, -1)", x -> x.bestStart(-1, -1));
        CHECKS.refused("addLayer of a seventh of 4 teeth", Checks.ARGUMENT, Plates::sixLayers,
            x -> x.addLayer(4, 0, 0, 0));
        CHECKS.refused("addLayer of a seventh at the tooth 30", Checks.ARGUMENT, Plates::sixLayers,
            x -> x.addLayer(5, 0, 0, 30));
        CHECKS.refused("restore(2) with nothing saved", Checks.INDEX, RosettePlate::new, x -> x.restore(2));
        CHECKS.refused("restore(-1) with nothing saved", Checks.INDEX, RosettePlate::new, x -> x.restore(-1));
    }

    private static void noSuchResult() {
        CHECKS.of("Terms", "`NONE = -9`: There is no such result.");
        due("NONE", RosettePlate.NONE, -9);
        RosettePlate x = plateOf("E24");
        Checks.type(x, "E24");
        due("errorPosition of a plate", x.errorPosition(), -9);
        due("about(4) without layers", x.about(4), -9);
        due("about(5) without layers", x.about(5), -9);
        due("blank without layers", x.blank(), -9);
        due("order without layers", x.order(0), -9);
        due("wheelFor of no wheel", x.wheelFor(60), -9);
        due("runScript of commands that succeed", x.runScript(1, 80000), -9);
        x.addLayer(10, 0, 8, 0);
        x.addLayer(10, 1, 8, 0);
        x.see(0, 0);
        due("comes to a point that is none", x.comes(0, 0, 0), -9);
        due("meet of two that never do", x.meet(0, 1), -9);
        due("turned to another side", x.turned(0, 1), -9);
        due("wheels, the smallest of none", x.wheels(0, 0, 0, 1), -9);
        due("wheels, the greatest of none", x.wheels(0, 0, 0, 2), -9);
    }

    // ---- what changes nothing, and the last call

    private static void changesNothing(String what, ToLongFunction<RosettePlate> call) {
        RosettePlate x = Plates.rich();
        long first = call.applyAsLong(x);
        due(what + " again", call.applyAsLong(x), first);
        CHECKS.same("the object after " + what, Checks.drain(x), Checks.drain(Plates.rich()));
    }

    private static void asking() {
        CHECKS.of("The public face",
            "what would be; these and all following methods up to the save slots change nothing.");
        changesNothing("bestStart", x -> x.bestStart(2, 1));
        changesNothing("wheels", x -> x.wheels(1, 20, 29, 0));
        changesNothing("wheelFor", x -> x.wheelFor(1));
        changesNothing("a script that removes", x -> x.runScript(3, 20000_20000_20000L));
        changesNothing("a script that takes a ring", x -> x.runScript(3, 30012_10060_11101L));
        changesNothing("a script that adds", x -> x.runScript(3, 41052_40601_13001L));
        changesNothing("a script that fails at its end", x -> x.runScript(3, 30012_20000_00000L));
        changesNothing("simulate", x -> x.simulate(5, 200));
        CHECKS.of("The public face", "what there is");
        changesNothing("errorPosition", RosettePlate::errorPosition);
        changesNothing("about(3)", x -> x.about(3));
        changesNothing("layer(2, 7)", x -> x.layer(2, 7));
        changesNothing("pen", x -> x.pen(2, 100));
        changesNothing("comes", x -> x.comes(2, 29, 191));
        changesNothing("at", x -> x.at(191));
        changesNothing("blank", RosettePlate::blank);
        changesNothing("together", RosettePlate::together);
        changesNothing("order", x -> x.order(1));
        changesNothing("sighting", x -> x.sighting(2, 2));
        changesNothing("common", x -> x.common(0, 2));
        changesNothing("meet", x -> x.meet(0, 2));
        changesNothing("turned", x -> x.turned(2, 2));
    }

    /** What has been asked before makes no difference to an answer. */
    private static void askingAfterAsking() {
        CHECKS.of("The public face",
            "what would be; these and all following methods up to the save slots change nothing.");
        String text = "E24i240100i240000i242005i242000i100800o160422s00198s05196";
        List<ToLongFunction<RosettePlate>> asked = List.of(x -> x.about(3), x -> x.about(5), x -> x.about(6),
            x -> x.layer(2, 7), x -> x.layer(5, 7), x -> x.pen(2, 99), x -> x.comes(2, 5, 196), x -> x.at(176),
            x -> x.at(196), RosettePlate::blank, RosettePlate::together, x -> x.order(2), x -> x.sighting(1, 2),
            x -> x.common(0, 1), x -> x.common(3, 2), x -> x.common(5, 4), x -> x.meet(0, 3), x -> x.turned(2, 3),
            x -> x.turned(3, 2), x -> x.bestStart(0, 1), x -> x.bestStart(2, 3), x -> x.bestStart(3, 2),
            x -> x.wheels(0, 20, 5, 2), x -> x.wheelFor(5), x -> x.runScript(3, 50122_10305_50124L),
            x -> x.runScript(2, 30012_72300L), x -> x.simulate(7, 9), RosettePlate::errorPosition);
        for (int first = 0; first < asked.size(); first++) {
            for (int then = 0; then < asked.size(); then++) {
                RosettePlate x = plateOf(text);
                asked.get(first).applyAsLong(x);
                due("the question " + then + " behind the question " + first, asked.get(then).applyAsLong(x),
                    asked.get(then).applyAsLong(plateOf(text)));
            }
        }
    }

    /** The call 512 is the last one that is promised: each of the actions ahead of it took the ring of 12 or of 13. */
    private static void lastCall() {
        CHECKS.of("What it is", "An object is used for at most 512 calls after it has been made");
        RosettePlate x = new RosettePlate();
        for (int call = 1; call <= 511; call++) {
            due("the call " + call, x.setRing(12 + call % 2), call == 1 ? 24 : 12 + (call - 1) % 2);
        }
        due("the call 512", x.undo(), 13);
    }
}
