/** Objects that tests begin with; each call makes a new one. */
final class Plates {
    private Plates() {
    }

    /** Three layers, three sightings, four remembered states, the save slot 0 filled, half a text. */
    static RosettePlate rich() {
        RosettePlate x = Checks.plateOf("E24i100800o160405s00198");
        x.setRing(30);
        x.save(0);
        x.addLayer(12, 0, 3, 29);
        x.see(1, 210);
        x.see(0, 220);
        Checks.type(x, "E24i1");
        return x;
    }

    static RosettePlate fullText() {
        RosettePlate x = rich();
        Checks.type(x, "x".repeat(95));
        return x;
    }

    static RosettePlate sixLayers() {
        RosettePlate x = rich();
        x.addLayer(13, 0, 0, 0);
        x.addLayer(14, 0, 0, 0);
        x.addLayer(15, 0, 0, 0);
        return x;
    }

    /** Three layers and eight sightings, the angles 0 to 7 at the radius 100, which no wheel reaches. */
    static RosettePlate eightSightings() {
        RosettePlate x = rich();
        for (int angle = 0; angle < 8; angle++) {
            x.see(angle, 100);
        }
        return x;
    }

    /** No layers and no sightings, but a remembered state, a save slot filled and a text. */
    static RosettePlate bare() {
        RosettePlate x = new RosettePlate();
        x.setRing(30);
        x.save(1);
        Checks.type(x, "E24i1");
        return x;
    }

    static RosettePlate nothingRemembered() {
        RosettePlate x = rich();
        x.restore(0);
        return x;
    }

    /** Fourteen remembered states, rings of 30 to 43 teeth, and now one of 44. */
    static RosettePlate fourteenRemembered() {
        RosettePlate x = rich();
        for (int teeth = 31; teeth <= 44; teeth++) {
            x.setRing(teeth);
        }
        return x;
    }
}
