/**
 * The promises 18 to 24: a test for each sentence that names a boundary case. The answers are worked out from the
 * document.
 */
public final class EdgesOfActionsTest extends Edges {
    public static void main(String[] args) {
        setRingRange();
        setRingStartsAndAngles();
        setRingAnswersThePrevious();
        setRingOutOfRange();
        addLayerRanges();
        addLayerStarts();
        addLayerAnswersItsNumber();
        addLayerOutOfRange();
        addLayerWithoutRoom();
        changeRanges();
        changeAnswersThePrevious();
        changeWithoutLayer();
        changeOutOfRange();
        removeRenumbers();
        removeAnswersTheNumber();
        removeWithoutLayer();
        seeWhenThereAreEight();
        seeRanges();
        seeAnswersFitting();
        seeOutOfRange();
        forgetAll();
        undoTakesBack();
        undoAnswersTheRest();
        undoOfNothing();
        CHECKS.close();
    }

    /** The wheel, the side, the hole and the start of a layer. */
    private static String numbers(RosettePlate x, int l) {
        return x.layer(l, 0) + " " + x.layer(l, 1) + " " + x.layer(l, 2) + " " + x.layer(l, 3);
    }

    // ---- Promise 18: setRing

    private static void setRingRange() {
        CHECKS.of("Promise 18", "`teeth`: 12 to 96");
        RosettePlate x = new RosettePlate();
        for (int teeth = 12; teeth <= 96; teeth++) {
            due("setRing(" + teeth + ")", x.setRing(teeth), teeth == 12 ? 24 : teeth - 1);
            due("the ring then", x.about(0), teeth);
        }
    }

    private static void setRingStartsAndAngles() {
        CHECKS.of("Promise 18",
            "Takes another ring. Starts of layers and angles of sightings that it has not become 0.");
        for (int teeth : new int[] {12, 13, 40, 94, 95}) {
            String last = String.format("%02d", teeth - 1);
            String beyond = String.format("%02d", teeth);
            RosettePlate x = plateOf("E96i1008" + last + "o1008" + beyond + "i100895" + "s" + last + "190s" + beyond
                + "191s95192s00193");
            x.setRing(teeth);
            due("the start of the last tooth", x.layer(0, 3), teeth - 1);
            due("the start behind it", x.layer(1, 3), 0);
            due("the start 95", x.layer(2, 3), 0);
            due("the angle of the last tooth", x.sighting(0, 0), teeth - 1);
            due("the angle behind it", x.sighting(1, 0), 0);
            due("the angle 95", x.sighting(2, 0), 0);
            due("the angle 0", x.sighting(3, 0), 0);
            for (int i = 0; i < 4; i++) {
                due("the radius stays", x.sighting(i, 1), 190 + i);
            }
            x.setRing(96);
            due("a start does not come back", x.layer(2, 3), 0);
            due("an angle does not come back", x.sighting(2, 0), 0);
            due("a start that the ring had stays", x.layer(0, 3), teeth - 1);
            x.undo();
            x.undo();
            due("undo brings a start back", x.layer(2, 3), 95);
            due("undo brings an angle back", x.sighting(2, 0), 95);
        }
        RosettePlate full = plateOf("E96" + "i100895".repeat(6) + "s95190".repeat(8));
        full.setRing(95);
        for (int l = 0; l < 6; l++) {
            CHECKS.same("the layer " + l, numbers(full, l), "10 0 8 0");
        }
        for (int i = 0; i < 8; i++) {
            due("the sighting " + i, 1000 * full.sighting(i, 0) + full.sighting(i, 1), 190);
        }
        due("layers stay", full.about(1), 6);
        due("sightings stay", full.about(2), 8);
    }

    private static void setRingAnswersThePrevious() {
        CHECKS.of("Promise 18", "Returns the teeth of the previous ring.");
        RosettePlate x = new RosettePlate();
        due("of a new object", x.setRing(12), 24);
        due("of the least", x.setRing(96), 12);
        due("of the greatest", x.setRing(96), 96);
        due("of the same again", x.setRing(12), 96);
        x.undo();
        due("when one was taken back", x.setRing(12), 96);
    }

    private static void setRingOutOfRange() {
        CHECKS.of("Promise 18", "Throws `IllegalArgumentException` if teeth is out of range");
        for (int teeth : new int[] {11, 97, 0, -1, -12, Integer.MIN_VALUE, Integer.MAX_VALUE}) {
            noArgument("setRing(" + teeth + ")", x -> x.setRing(teeth));
            CHECKS.refused("setRing(" + teeth + ") when 14 states are remembered", Checks.ARGUMENT,
                Plates::fourteenRemembered, x -> x.setRing(teeth));
        }
    }

    // ---- Promise 19: addLayer

    private static void addLayerRanges() {
        CHECKS.of("Promise 19", "`wheel`: 5 to 60 .. `side`: 0 or 1 .. `hole`: 0 to 20");
        for (int wheel : new int[] {5, 6, 59, 60}) {
            for (int side = 0; side <= 1; side++) {
                for (int hole : new int[] {0, 1, 19, 20}) {
                    RosettePlate x = new RosettePlate();
                    due("addLayer", x.addLayer(wheel, side, hole, 23), 0);
                    CHECKS.same("the layer", numbers(x, 0), wheel + " " + side + " " + hole + " 23");
                }
            }
        }
    }

    private static void addLayerStarts() {
        CHECKS.of("Promise 19", "`start`: 0 to the teeth of the ring less 1");
        for (int ring : new int[] {12, 24, 95, 96}) {
            RosettePlate x = new RosettePlate();
            x.setRing(ring);
            due("addLayer at the first tooth", x.addLayer(5, 0, 0, 0), 0);
            due("addLayer at the last tooth", x.addLayer(5, 0, 0, ring - 1), 1);
            due("its start", x.layer(1, 3), ring - 1);
            CHECKS.due("addLayer behind the last tooth", () -> x.addLayer(5, 0, 0, ring), Checks.ARGUMENT);
            CHECKS.due("addLayer ahead of the first tooth", () -> x.addLayer(5, 0, 0, -1), Checks.ARGUMENT);
            due("layers", x.about(1), 2);
        }
    }

    private static void addLayerAnswersItsNumber() {
        CHECKS.of("Promise 19", "Returns its number.");
        RosettePlate x = new RosettePlate();
        for (int l = 0; l < 6; l++) {
            due("addLayer", x.addLayer(10 + l, 0, 0, 0), l);
        }
        x.undo();
        due("addLayer when the last one is taken back", x.addLayer(50, 0, 0, 0), 5);
        x.remove(0);
        due("addLayer when the first one is away", x.addLayer(60, 0, 0, 0), 5);
        due("its wheel", x.layer(5, 0), 60);
    }

    private static void addLayerOutOfRange() {
        CHECKS.of("Promise 19", "Throws `IllegalArgumentException` if an argument is out of range");
        int[] right = {5, 0, 0, 0};
        int[][] wrong = {{4, 61, 0, -5}, {-1, 2}, {-1, 21}, {-1, 30, 96}};
        for (int i = 0; i < right.length; i++) {
            for (int v : wrong[i]) {
                outOfRange(right, i, v);
            }
            outOfRange(right, i, Integer.MIN_VALUE);
            outOfRange(right, i, Integer.MAX_VALUE);
        }
    }

    private static void outOfRange(int[] right, int i, int v) {
        int[] w = right.clone();
        w[i] = v;
        String what = "addLayer(" + w[0] + ", " + w[1] + ", " + w[2] + ", " + w[3] + ")";
        noArgument(what, x -> x.addLayer(w[0], w[1], w[2], w[3]));
        CHECKS.refused(what + " to six", Checks.ARGUMENT, Plates::sixLayers, x -> x.addLayer(w[0], w[1], w[2], w[3]));
    }

    private static void addLayerWithoutRoom() {
        CHECKS.of("Promise 19", "Throws `IllegalStateException` if there are 6 layers");
        CHECKS.refused("addLayer to six", Checks.STATE, Plates::sixLayers, x -> x.addLayer(5, 0, 0, 0));
        CHECKS.refused("addLayer to six", Checks.STATE, Plates::sixLayers, x -> x.addLayer(60, 1, 20, 29));
        RosettePlate x = Plates.sixLayers();
        x.remove(5);
        due("addLayer to five", x.addLayer(5, 0, 0, 0), 5);
    }

    // ---- Promise 20: change

    private static void changeRanges() {
        CHECKS.of("Promise 20", "`what`: 0: the teeth of its wheel; 1: its side; 2: its hole; 3: its start .. `v`: the new"
            + " number, in its range");
        int[][] ranges = {{5, 60}, {0, 1}, {0, 20}, {0, 23}};
        for (int what = 0; what < 4; what++) {
            for (int v = -1; v <= 62; v++) {
                RosettePlate x = plateOf("E24i301007i301007o301007");
                int number = v;
                int which = what;
                boolean isRight = v >= ranges[what][0] && v <= ranges[what][1];
                String got = Checks.outcome(() -> x.change(1, which, number));
                CHECKS.same("change(1, " + what + ", " + v + ")", got, isRight
                    ? String.valueOf(new int[] {30, 0, 10, 7}[what]) : "IllegalArgumentException");
                int[] want = {30, 0, 10, 7};
                want[what] = isRight ? v : want[what];
                CHECKS.same("the layer", numbers(x, 1), want[0] + " " + want[1] + " " + want[2] + " " + want[3]);
                CHECKS.same("the other layers", numbers(x, 0) + ", " + numbers(x, 2), "30 0 10 7, 30 1 10 7");
            }
        }
    }

    private static void changeAnswersThePrevious() {
        CHECKS.of("Promise 20", "Returns the previous number.");
        RosettePlate x = plateOf("E96i050000o602095");
        int[][] edges = {{5, 60}, {0, 1}, {0, 20}, {0, 95}};
        for (int what = 0; what < 4; what++) {
            due("of the least", x.change(0, what, edges[what][1]), edges[what][0]);
            due("of the greatest", x.change(0, what, edges[what][0]), edges[what][1]);
            due("of the least again", x.change(0, what, edges[what][0]), edges[what][0]);
            due("of the last layer", x.change(1, what, edges[what][0]), edges[what][1]);
        }
    }

    private static void changeWithoutLayer() {
        CHECKS.of("Promise 20", "Throws `IndexOutOfBoundsException` if there is no such layer");
        for (int l : new int[] {-1, 3, 6, Integer.MIN_VALUE, Integer.MAX_VALUE}) {
            noIndex("change(" + l + ", 0, 5)", x -> x.change(l, 0, 5));
            noIndex("change(" + l + ", 4, 5)", x -> x.change(l, 4, 5));
            noIndex("change(" + l + ", 0, 4)", x -> x.change(l, 0, 4));
        }
        CHECKS.refused("change(0, 0, 5) of none", Checks.INDEX, Plates::bare, x -> x.change(0, 0, 5));
        CHECKS.refused("change(6, 0, 5) of six", Checks.INDEX, Plates::sixLayers, x -> x.change(6, 0, 5));
        due("change(5, 0, 5) of six", Plates.sixLayers().change(5, 0, 5), 15);
    }

    private static void changeOutOfRange() {
        CHECKS.of("Promise 20", "Throws `IllegalArgumentException` if what or v is out of range");
        for (int what : new int[] {-1, 4, Integer.MIN_VALUE, Integer.MAX_VALUE}) {
            noArgument("change(0, " + what + ", 5)", x -> x.change(0, what, 5));
        }
        // The ring of Plates.rich has 30 teeth.
        int[][] wrong = {{0, 4}, {0, 61}, {1, -1}, {1, 2}, {2, -1}, {2, 21}, {3, -1}, {3, 30}};
        for (int[] w : wrong) {
            noArgument("change(2, " + w[0] + ", " + w[1] + ")", x -> x.change(2, w[0], w[1]));
            noArgument("change to the least int", x -> x.change(2, w[0], Integer.MIN_VALUE));
            noArgument("change to the greatest int", x -> x.change(2, w[0], Integer.MAX_VALUE));
        }
        for (int ring : new int[] {12, 96}) {
            RosettePlate x = plateOf("E" + ring + "i050000");
            CHECKS.due("a start behind the last tooth", () -> x.change(0, 3, ring), Checks.ARGUMENT);
            due("the last tooth", x.change(0, 3, ring - 1), 0);
        }
    }

    // ---- Promise 21: remove

    private static void removeRenumbers() {
        CHECKS.of("Promise 21", "Takes a layer away; those behind it get numbers that are smaller by 1.");
        for (int away = 0; away < 6; away++) {
            RosettePlate x = new RosettePlate();
            for (int l = 0; l < 6; l++) {
                x.addLayer(10 + l, l % 2, 10 - l, l);
            }
            due("remove(" + away + ")", x.remove(away), 5);
            for (int l = 0; l < 5; l++) {
                int was = l < away ? l : l + 1;
                CHECKS.same("the layer " + l, numbers(x, l), 10 + was + " " + was % 2 + " " + (10 - was) + " " + was);
            }
            CHECKS.due("the layer 5", () -> x.layer(5, 0), Checks.INDEX);
            x.undo();
            for (int l = 0; l < 6; l++) {
                due("the layer " + l + " again", x.layer(l, 0), 10 + l);
            }
        }
    }

    private static void removeAnswersTheNumber() {
        CHECKS.of("Promise 21", "Returns the number of layers then.");
        RosettePlate x = Plates.sixLayers();
        for (int left = 5; left >= 0; left--) {
            due("remove(" + left + ")", x.remove(left), left);
            due("layers", x.about(1), left);
        }
        RosettePlate y = Plates.sixLayers();
        for (int left = 5; left >= 0; left--) {
            due("remove(0) of " + (left + 1), y.remove(0), left);
        }
        due("sightings stay", y.about(2), 3);
    }

    private static void removeWithoutLayer() {
        CHECKS.of("Promise 21", "Throws `IndexOutOfBoundsException` if there is no such layer");
        for (int l : new int[] {-1, 3, 6, Integer.MIN_VALUE, Integer.MAX_VALUE}) {
            noIndex("remove(" + l + ")", x -> x.remove(l));
        }
        CHECKS.refused("remove(0) of none", Checks.INDEX, Plates::bare, x -> x.remove(0));
        CHECKS.refused("remove(6) of six", Checks.INDEX, Plates::sixLayers, x -> x.remove(6));
    }

    // ---- Promise 22: see

    private static void seeWhenThereAreEight() {
        CHECKS.of("Promise 22", "Notes a sighting; when there are 8, the oldest one is forgotten.");
        RosettePlate x = new RosettePlate();
        for (int i = 0; i < 8; i++) {
            x.see(i, i);
        }
        due("eight", x.about(2), 8);
        due("the oldest of eight", x.sighting(0, 1), 0);
        x.see(8, 8);
        due("still eight", x.about(2), 8);
        for (int i = 0; i < 8; i++) {
            due("the angle " + i, x.sighting(i, 0), i + 1);
            due("the radius " + i, x.sighting(i, 1), i + 1);
        }
        due("undo of the ninth", x.undo(), 8);
        for (int i = 0; i < 8; i++) {
            due("the radius " + i + " again", x.sighting(i, 1), i);
        }
        x.undo();
        due("seven", x.about(2), 7);
        x.see(20, 20);
        due("the eighth again", x.sighting(7, 1), 20);
        due("the oldest is still there", x.sighting(0, 1), 0);
    }

    private static void seeRanges() {
        CHECKS.of("Promise 22", "`angle`: 0 to the teeth of the ring less 1 .. `radius`: 0 to 300");
        for (int ring : new int[] {12, 24, 96}) {
            RosettePlate x = plateOf("E" + ring);
            x.see(0, 0);
            x.see(ring - 1, 300);
            due("the last angle", x.sighting(1, 0), ring - 1);
            due("the greatest radius", x.sighting(1, 1), 300);
            CHECKS.due("see behind the last angle", () -> x.see(ring, 0), Checks.ARGUMENT);
            due("sightings", x.about(2), 2);
        }
    }

    private static void seeAnswersFitting() {
        CHECKS.of("Promise 22", "Returns how many layers fit all sightings then.");
        due("no layers", new RosettePlate().see(0, 195), 0);
        RosettePlate x = plateOf("E24" + "i100800".repeat(6));
        due("all of six", x.see(0, 198), 6);
        due("none of six", x.see(0, 199), 0);
        for (int i = 0; i < 7; i++) {
            due("none as long as the false one is kept", x.see(0, 198), 0);
        }
        due("all of six when the false one is forgotten", x.see(0, 198), 6);
    }

    private static void seeOutOfRange() {
        CHECKS.of("Promise 22", "Throws `IllegalArgumentException` if angle or radius is out of range");
        for (int angle : new int[] {-1, 30, Integer.MIN_VALUE, Integer.MAX_VALUE}) {
            noArgument("see(" + angle + ", 300)", x -> x.see(angle, 300));
            CHECKS.refused("see(" + angle + ", 300) with eight", Checks.ARGUMENT, Plates::eightSightings,
                x -> x.see(angle, 300));
        }
        for (int radius : new int[] {-1, 301, Integer.MIN_VALUE, Integer.MAX_VALUE}) {
            noArgument("see(29, " + radius + ")", x -> x.see(29, radius));
            CHECKS.refused("see(29, " + radius + ") with eight", Checks.ARGUMENT, Plates::eightSightings,
                x -> x.see(29, radius));
        }
        noArgument("see(-1, -1)", x -> x.see(-1, -1));
    }

    // ---- Promise 23: forget

    private static void forgetAll() {
        CHECKS.of("Promise 23", "Forgets all sightings. .. Returns how many there were.");
        RosettePlate x = new RosettePlate();
        due("forget of none", x.forget(), 0);
        x.see(0, 195);
        due("forget of one", x.forget(), 1);
        due("sightings", x.about(2), 0);
        RosettePlate full = Plates.eightSightings();
        due("layers that fit eight", full.about(6), 0);
        due("forget of eight", full.forget(), 8);
        due("layers that fit none", full.about(6), 3);
        due("forget of none again", full.forget(), 0);
        full.see(1, 2);
        due("the first one then", full.sighting(0, 1), 2);
        due("sightings then", full.about(2), 1);
        full.undo();
        full.undo();
        full.undo();
        due("eight again", full.about(2), 8);
        due("the eighth again", full.sighting(7, 0), 7);
    }

    // ---- Promise 24: undo

    private static void undoTakesBack() {
        CHECKS.of("Promise 24", "Takes back the last action that is remembered.");
        RosettePlate x = Plates.sixLayers();
        String six = Checks.view(x);
        x.remove(0);
        String five = Checks.view(x);
        x.setRing(12);
        x.undo();
        CHECKS.same("the state ahead of the last action", Checks.view(x), five);
        x.see(3, 3);
        x.undo();
        CHECKS.same("the same when another action came instead", Checks.view(x), five);
        x.undo();
        CHECKS.same("the state ahead of the action before it", Checks.view(x), six);
        CHECKS.same("a call that threw is no action", Checks.outcome(() -> x.addLayer(5, 0, 0, 0)),
            "IllegalStateException");
        x.undo();
        due("the action ahead of that call", x.about(1), 5);
    }

    private static void undoAnswersTheRest() {
        CHECKS.of("Promise 24", "Returns how many states are still remembered.");
        RosettePlate x = new RosettePlate();
        x.forget();
        due("undo of one", x.undo(), 0);
        for (int i = 0; i < 14; i++) {
            x.setRing(30 + i);
        }
        due("undo of fourteen", x.undo(), 13);
        x.setRing(60);
        x.setRing(61);
        due("undo of fourteen of sixteen", x.undo(), 13);
        for (int left = 12; left >= 0; left--) {
            due("undo to " + left, x.undo(), left);
        }
        // The ring of 24 was forgotten when the ring of 61 came.
        due("the oldest one that is kept", x.about(0), 30);
    }

    private static void undoOfNothing() {
        CHECKS.of("Promise 24", "Throws `IllegalStateException` if none is remembered");
        CHECKS.refused("undo of a new object", Checks.STATE, RosettePlate::new, RosettePlate::undo);
        CHECKS.refused("undo behind restore", Checks.STATE, Plates::nothingRemembered, RosettePlate::undo);
        CHECKS.refused("undo behind load", Checks.STATE, () -> plateOf("E24i100800s00198"), RosettePlate::undo);
        CHECKS.refused("undo of all fourteen and once more", Checks.STATE, EdgesOfActionsTest::allTakenBack,
            RosettePlate::undo);
    }

    private static RosettePlate allTakenBack() {
        RosettePlate x = Plates.fourteenRemembered();
        for (int i = 0; i < 14; i++) {
            x.undo();
        }
        return x;
    }
}
