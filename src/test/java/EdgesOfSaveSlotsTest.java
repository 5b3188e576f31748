/**
 * The promises 30 and 31: a test for each sentence that names a boundary case. The answers are worked out from the
 * document.
 */
public final class EdgesOfSaveSlotsTest extends Edges {
    public static void main(String[] args) {
        saveSlots();
        saveStoresThePresent();
        saveAnswersTheLayers();
        saveNoSuchSlot();
        restoreReplacesTheState();
        restoreForgets();
        slotKeepsIt();
        restoreAnswersTheLayers();
        restoreNoSuchSlot();
        restoreOfNothing();
        CHECKS.close();
    }

    // ---- Promise 30: save

    private static void saveSlots() {
        CHECKS.of("Promise 30", "`slot`: 0 or 1");
        RosettePlate x = new RosettePlate();
        x.setRing(30);
        due("save(0)", x.save(0), 0);
        x.setRing(40);
        due("save(1)", x.save(1), 0);
        x.setRing(50);
        x.restore(0);
        due("the ring of the slot 0", x.about(0), 30);
        x.restore(1);
        due("the ring of the slot 1", x.about(0), 40);
    }

    private static void saveStoresThePresent() {
        CHECKS.of("Promise 30", "Stores the present state in a save slot.");
        RosettePlate x = plateOf("E96" + "i100895".repeat(6) + "s95300".repeat(8));
        x.setRing(96);
        String full = Checks.view(x);
        x.save(0);
        due("save is no action", x.undo(), 0);
        for (int l = 5; l >= 0; l--) {
            x.change(l, 0, 5);
            x.change(l, 3, 0);
            x.remove(l);
        }
        x.see(0, 0);
        x.setRing(12);
        String empty = Checks.view(x);
        x.save(1);
        x.restore(0);
        CHECKS.same("the slot 0, in which all has its room filled", Checks.view(x), full);
        x.restore(1);
        CHECKS.same("the slot 1, in which there are no layers", Checks.view(x), empty);
        x.restore(0);
        x.setRing(20);
        x.save(0);
        x.setRing(21);
        x.restore(0);
        due("the ring of the slot 0 when it was filled again", x.about(0), 20);
        x.restore(1);
        due("the ring of the slot 1 still", x.about(0), 12);
    }

    private static void saveAnswersTheLayers() {
        CHECKS.of("Promise 30", "Returns the number of layers.");
        RosettePlate x = new RosettePlate();
        for (int layers = 0; layers <= 6; layers++) {
            due("save(0) of " + layers, x.save(0), layers);
            due("save(1) of " + layers, x.save(1), layers);
            if (layers < 6) {
                x.addLayer(10, 0, 0, 0);
            }
        }
    }

    private static void saveNoSuchSlot() {
        CHECKS.of("Promise 30", "Throws `IndexOutOfBoundsException` if there is no such save slot");
        for (int slot : new int[] {-1, 2, Integer.MIN_VALUE, Integer.MAX_VALUE}) {
            CHECKS.refused("save(" + slot + ")", Checks.INDEX, Plates::rich, x -> x.save(slot));
            CHECKS.refused("save(" + slot + ") of a new object", Checks.INDEX, RosettePlate::new, x -> x.save(slot));
        }
    }

    // ---- Promise 31: restore

    private static void restoreReplacesTheState() {
        CHECKS.of("Promise 31", "Replaces the state by the one in a save slot");
        RosettePlate x = new RosettePlate();
        x.save(0);
        Checks.type(x, "E9");
        for (int l = 0; l < 6; l++) {
            x.addLayer(60, 1, 20, 23);
        }
        for (int i = 0; i < 8; i++) {
            x.see(23, 300);
        }
        x.setRing(96);
        x.save(1);
        String full = Checks.view(x);
        due("restore of a state without layers", x.restore(0), 0);
        due("the ring", x.about(0), 24);
        due("the layers", x.about(1), 0);
        due("the sightings", x.about(2), 0);
        due("the text stays", x.errorPosition(), 2);
        due("restore of a state with six layers", x.restore(1), 6);
        CHECKS.same("that state", Checks.view(x), full);
        CHECKS.due("a seventh layer", () -> x.addLayer(5, 0, 0, 0), Checks.STATE);
    }

    private static void restoreForgets() {
        CHECKS.of("Promise 31", "and forgets all remembered states.");
        RosettePlate x = Plates.fourteenRemembered();
        x.restore(0);
        CHECKS.due("undo", x::undo, Checks.STATE);
        for (int i = 0; i < 14; i++) {
            x.setRing(50 + i);
        }
        for (int left = 13; left >= 0; left--) {
            due("undo to " + left, x.undo(), left);
        }
        due("the ring of the slot", x.about(0), 30);
        CHECKS.due("undo behind all", x::undo, Checks.STATE);
        due("restore when nothing is remembered", x.restore(0), 2);
        CHECKS.due("undo then", x::undo, Checks.STATE);
    }

    private static void slotKeepsIt() {
        CHECKS.of("Promise 31", "The save slot keeps it.");
        RosettePlate x = Plates.rich();
        x.restore(0);
        String kept = Checks.view(x);
        for (int i = 0; i < 3; i++) {
            x.change(0, 0, 60);
            x.remove(1);
            x.see(0, 0);
            x.setRing(12);
            due("restore again", x.restore(0), 2);
            CHECKS.same("the state of the slot", Checks.view(x), kept);
        }
        x.setRing(13);
        x.undo();
        CHECKS.same("the state when an action was taken back", Checks.view(x), kept);
        due("restore after undo", x.restore(0), 2);
    }

    private static void restoreAnswersTheLayers() {
        CHECKS.of("Promise 31", "Returns the number of layers then.");
        for (int layers = 0; layers <= 6; layers++) {
            RosettePlate x = plateOf("E24" + "i100800".repeat(layers));
            x.save(1);
            for (int l = layers; l > 0; l--) {
                x.remove(0);
            }
            x.addLayer(5, 0, 0, 0);
            due("restore of " + layers, x.restore(1), layers);
            due("the layers then", x.about(1), layers);
        }
    }

    private static void restoreNoSuchSlot() {
        CHECKS.of("Promise 31", "Throws `IndexOutOfBoundsException` if there is no such save slot");
        for (int slot : new int[] {-1, 2, Integer.MIN_VALUE, Integer.MAX_VALUE}) {
            CHECKS.refused("restore(" + slot + ")", Checks.INDEX, Plates::rich, x -> x.restore(slot));
            CHECKS.refused("restore(" + slot + ") with nothing saved", Checks.INDEX, RosettePlate::new,
                x -> x.restore(slot));
        }
    }

    private static void restoreOfNothing() {
        CHECKS.of("Promise 31", "Throws `IllegalStateException` if nothing has been saved in it since the last load");
        CHECKS.refused("restore(0) of a new object", Checks.STATE, RosettePlate::new, x -> x.restore(0));
        CHECKS.refused("restore(1) of a new object", Checks.STATE, RosettePlate::new, x -> x.restore(1));
        CHECKS.refused("restore(1) when the slot 0 is filled", Checks.STATE, Plates::rich, x -> x.restore(1));
        CHECKS.refused("restore(0) when the slot 1 is filled", Checks.STATE, Plates::bare, x -> x.restore(0));
        CHECKS.refused("restore(0) since load", Checks.STATE, EdgesOfSaveSlotsTest::loaded, x -> x.restore(0));
        CHECKS.refused("restore(1) since load", Checks.STATE, EdgesOfSaveSlotsTest::loaded, x -> x.restore(1));
        RosettePlate x = loaded();
        x.save(1);
        due("restore of what was saved since load", x.restore(1), 1);
        x.append('x');
        CHECKS.due("load that throws", x::load, Checks.STATE);
        due("restore behind it", x.restore(1), 1);
    }

    private static RosettePlate loaded() {
        RosettePlate x = Plates.rich();
        x.save(0);
        x.save(1);
        x.clearText();
        Checks.type(x, "E24i100800s00198");
        x.load();
        x.setRing(50);
        return x;
    }
}
