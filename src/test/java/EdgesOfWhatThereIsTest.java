/**
 * The promises 1 and 6 to 14: a test for each sentence that names a boundary case. The answers are worked out from
 * the document.
 */
public final class EdgesOfWhatThereIsTest extends Edges {
    public static void main(String[] args) {
        newObject();
        aboutRingLayersSightings();
        aboutPoints();
        aboutRadii();
        aboutFitting();
        aboutWithoutLayers();
        aboutOutOfRange();
        layerNumbers();
        layerSizes();
        noSuchLayer();
        layerOutOfRange();
        penPlaces();
        penWithoutLayer();
        penBeforeZero();
        comesRanges();
        comesFirst();
        comesLast();
        comesNever();
        comesWithoutLayer();
        comesOutOfRange();
        atRanges();
        atDifferentPoints();
        atOutOfRange();
        blankDifferences();
        blankOfOneRadius();
        blankWithoutLayers();
        togetherSmallest();
        togetherWithoutLayers();
        orderOfTurnsLobesNumbers();
        orderBehindTheLast();
        orderOutOfRange();
        sightingOldest();
        sightingHowMany();
        noSuchSighting();
        sightingOutOfRange();
        CHECKS.close();
    }

    // ---- Promise 1: a new object

    private static void newObject() {
        CHECKS.of("Promise 1", "Creates a plate with a ring of 24 teeth.");
        RosettePlate x = new RosettePlate();
        long[] want = {24, 0, 0, 0, NONE, NONE, 0};
        for (int what = 0; what < want.length; what++) {
            due("about(" + what + ")", x.about(what), want[what]);
        }
        due("errorPosition", x.errorPosition(), 0);
        due("clearText", x.clearText(), 0);
        CHECKS.due("undo", x::undo, Checks.STATE);
        CHECKS.due("restore(0)", () -> x.restore(0), Checks.STATE);
        CHECKS.due("restore(1)", () -> x.restore(1), Checks.STATE);
        CHECKS.due("the tooth 24", () -> x.addLayer(5, 0, 0, 24), Checks.ARGUMENT);
        due("the tooth 23", x.addLayer(5, 0, 0, 23), 0);
    }

    // ---- Promise 6: about

    private static void aboutRingLayersSightings() {
        CHECKS.of("Promise 6", "`what`: 0: the teeth of the ring; 1: the number of layers; 2: of sightings");
        due("the ring of 12", plateOf("E12").about(0), 12);
        due("the ring of 96", plateOf("E96").about(0), 96);
        RosettePlate x = plateOf("E24" + "i100800".repeat(6) + "s00198".repeat(8));
        due("six layers", x.about(1), 6);
        due("eight sightings", x.about(2), 8);
        x.see(0, 0);
        due("eight sightings when one more was seen", x.about(2), 8);
        due("no layers", plateOf("E24s00000").about(1), 0);
        due("no sightings", plateOf("E24i100800").about(2), 0);
    }

    private static void aboutPoints() {
        CHECKS.of("Promise 6", "3: the number of different points of all rosettes together");
        due("points of no layers", plateOf("E24s00198").about(3), 0);
        due("points of the least ring", plateOf("E12i120000").about(3), 12);
        due("points of six layers alike", plateOf("E24" + "i100800".repeat(6)).about(3), 72);
        due("points of six layers at six radii",
            plateOf("E96i050000i060000i070000o050000o060000o070000").about(3), 6 * 96);
        // 195 at all angles is of both; the hole 1 has 196 besides, once in each of its 24 lobes.
        due("points of two layers that share a radius", plateOf("E24i050000i050100").about(3), 24 + 24);
    }

    private static void aboutRadii() {
        CHECKS.of("Promise 6", "4: the smallest radius of a point; 5: the greatest one");
        RosettePlate least = plateOf("E24i602000");
        due("the smallest radius of all wheels", least.about(4), 120);
        due("the greatest one beside it", least.about(5), 160);
        RosettePlate most = plateOf("E24o602000");
        due("the smallest one beside the greatest", most.about(4), 240);
        due("the greatest radius of all wheels", most.about(5), 280);
        String between = "i050000o050000i100800";
        for (String text : new String[] {"i602000o602000" + between, between + "i602000o602000",
            "o602000" + between + "i602000"}) {
            due("the smallest of " + text, plateOf("E24" + text).about(4), 120);
            due("the greatest of " + text, plateOf("E24" + text).about(5), 280);
        }
        RosettePlate one = plateOf("E24i100000");
        due("the smallest of one radius", one.about(4), 190);
        due("the greatest of one radius", one.about(5), 190);
    }

    private static void aboutFitting() {
        CHECKS.of("Promise 6", "6: the number of layers that fit the sightings");
        due("no layers, a sighting", plateOf("E24s00198").about(6), 0);
        due("six layers, no sightings", plateOf("E24" + "i100800".repeat(6)).about(6), 6);
        due("six layers, a point of theirs", plateOf("E24" + "i100800".repeat(6) + "s00198").about(6), 6);
        due("six layers, a point of the last one", plateOf("E24" + "i100801".repeat(5) + "i100800s00198").about(6), 1);
        due("six layers, a point of none", plateOf("E24" + "i100800".repeat(6) + "s00300").about(6), 0);
    }

    private static void aboutWithoutLayers() {
        CHECKS.of("Promise 6", "Returns that number; for 4 and 5 NONE if there are no layers.");
        RosettePlate x = plateOf("E24i100800s00198");
        x.remove(0);
        due("about(4)", x.about(4), NONE);
        due("about(5)", x.about(5), NONE);
        due("about(3)", x.about(3), 0);
        due("about(6)", x.about(6), 0);
        x.undo();
        due("about(4) with a layer", x.about(4), 182);
        due("about(5) with a layer", x.about(5), 198);
    }

    private static void aboutOutOfRange() {
        CHECKS.of("Promise 6", "Throws `IllegalArgumentException` if what is not 0 to 6");
        for (int what : new int[] {-1, 7, Integer.MIN_VALUE, Integer.MAX_VALUE}) {
            noArgument("about(" + what + ")", x -> x.about(what));
            CHECKS.refused("about(" + what + ") of a bare plate", Checks.ARGUMENT, Plates::bare, x -> x.about(what));
        }
    }

    // ---- Promise 7: layer

    private static void layerNumbers() {
        CHECKS.of("Promise 7", "0: the teeth of its wheel; 1: its side; 2: its hole; 3: its start; 4: its period; 5: its"
            + " turns; 6: its lobes");
        long[] least = {5, 0, 0, 0, 60, 5, 12};
        long[] most = {60, 1, 20, 95, 480, 5, 8};
        for (int what = 0; what < 7; what++) {
            due("the least, layer(0, " + what + ")", plateOf("E12i050000").layer(0, what), least[what]);
            due("the greatest, layer(0, " + what + ")", plateOf("E96o602095").layer(0, what), most[what]);
        }
    }

    /**
     * The wheel of 60 in the ring of 96 comes to each angle with five u's that are 12 apart. Where they begin with 0 or
     * 6, two pairs of them have one radius, so there are 3 points; at the ten other beginnings there are 5. Each
     * beginning is that of 8 angles: 8 * (2 * 3 + 10 * 5).
     */
    private static void layerSizes() {
        CHECKS.of("Promise 7",
            "7: the number of points of its rosette; 8: the smallest radius of a point of it; 9: the greatest one");
        RosettePlate x = plateOf("E96i602000o602095i050000i050100");
        long[][] want = {{448, 120, 160}, {448, 240, 280}, {96, 195, 195}, {192, 195, 196}};
        for (int l = 0; l < want.length; l++) {
            for (int what = 7; what <= 9; what++) {
                due("layer(" + l + ", " + what + ")", x.layer(l, what), want[l][what - 7]);
            }
        }
        due("points of the least ring and one turn", plateOf("E12i122000").layer(0, 7), 12);
    }

    private static void noSuchLayer() {
        CHECKS.of("Promise 7", "Throws `IndexOutOfBoundsException` if there is no such layer");
        for (int l : new int[] {-1, 3, 6, Integer.MIN_VALUE, Integer.MAX_VALUE}) {
            noIndex("layer(" + l + ", 0)", x -> x.layer(l, 0));
            noIndex("layer(" + l + ", 10)", x -> x.layer(l, 10));
        }
        CHECKS.refused("layer(0, 0) of none", Checks.INDEX, Plates::bare, x -> x.layer(0, 0));
        CHECKS.refused("layer(6, 0) of six", Checks.INDEX, Plates::sixLayers, x -> x.layer(6, 0));
        RosettePlate x = Plates.sixLayers();
        due("layer(5, 0) of six", x.layer(5, 0), 15);
        x.remove(0);
        CHECKS.due("layer(5, 0) of five", () -> x.layer(5, 0), Checks.INDEX);
        due("layer(4, 0) of five", x.layer(4, 0), 15);
    }

    private static void layerOutOfRange() {
        CHECKS.of("Promise 7", "Throws `IllegalArgumentException` if what is not 0 to 9");
        for (int what : new int[] {-1, 10, Integer.MIN_VALUE, Integer.MAX_VALUE}) {
            noArgument("layer(0, " + what + ")", x -> x.layer(0, what));
            noArgument("layer(2, " + what + ")", x -> x.layer(2, what));
        }
    }

    // ---- Promise 8: pen

    private static void penPlaces() {
        CHECKS.of("Promise 8", "`t`: step, 0 or more .. Returns 1000 * (its angle) + (its radius).");
        RosettePlate x = plateOf("E24i100823i100800");
        due("at the step 0", x.pen(0, 0), 23198);
        due("around the ring, at the angle 0", x.pen(0, 1), 194);
        due("at the last step of the period", x.pen(0, 119), 22194);
        due("when it closes", x.pen(0, 120), 23198);
        due("at the start 0", x.pen(1, 0), 198);
        due("at the last tooth", x.pen(1, 23), 23189);
        due("around the ring", x.pen(1, 24), 186);
        due("at the greatest step, which leaves 7 in 24 and in 10", x.pen(1, Long.MAX_VALUE), 7189);
    }

    private static void penWithoutLayer() {
        CHECKS.of("Promise 8", "Throws `IndexOutOfBoundsException` if there is no such layer");
        for (int l : new int[] {-1, 3, 6, Integer.MIN_VALUE, Integer.MAX_VALUE}) {
            noIndex("pen(" + l + ", 0)", x -> x.pen(l, 0));
            noIndex("pen(" + l + ", -1)", x -> x.pen(l, -1));
        }
        CHECKS.refused("pen(0, 0) of none", Checks.INDEX, Plates::bare, x -> x.pen(0, 0));
    }

    private static void penBeforeZero() {
        CHECKS.of("Promise 8", "Throws `IllegalArgumentException` if t is negative");
        for (long t : new long[] {-1, -24, -120, Integer.MIN_VALUE, Long.MIN_VALUE, Long.MIN_VALUE + 1}) {
            noArgument("pen(0, " + t + ")", x -> x.pen(0, t));
        }
    }

    // ---- Promise 9: comes

    private static void comesRanges() {
        CHECKS.of("Promise 9", "`angle`: 0 to the teeth of the ring less 1 .. `radius`: 0 to 300");
        for (int ring : new int[] {12, 24, 96}) {
            RosettePlate x = plateOf("E" + ring + "i050000");
            due("angle 0", x.comes(0, 0, 195), 0);
            due("the last angle of " + ring, x.comes(0, ring - 1, 195), ring - 1);
            CHECKS.due("one angle more than " + ring, () -> x.comes(0, ring, 195), Checks.ARGUMENT);
            CHECKS.due("angle -1 of " + ring, () -> x.comes(0, -1, 195), Checks.ARGUMENT);
            due("radius 0", x.comes(0, 0, 0), NONE);
            due("radius 300", x.comes(0, 0, 300), NONE);
        }
    }

    private static void comesFirst() {
        CHECKS.of("Promise 9", "Returns the first step at which its pen is at this point");
        // At the angle 23 of A are the steps 23, 47, 71, 95, 119 with u = 3, 7, 1, 5, 9.
        RosettePlate x = plateOf("E24i100800");
        due("the step 0", x.comes(0, 0, 198), 0);
        due("the first of the steps 23 and 47", x.comes(0, 23, 189), 23);
        due("the first of the steps 71 and 119", x.comes(0, 23, 194), 71);
        due("the step 95", x.comes(0, 23, 182), 95);
        RosettePlate y = plateOf("E24i100823");
        due("the step 0 of the start 23", y.comes(0, 23, 198), 0);
        due("the step 1, around the ring", y.comes(0, 0, 194), 1);
        due("the angle ahead of the start, at the step 23", y.comes(0, 22, 189), 23);
        due("the angle ahead of the start, at the step 95", y.comes(0, 22, 182), 95);
    }

    /**
     * A wheel of 57 and a ring of 96 have 3 in common: at the angle ahead of the start u is 2, 5, 8, up to 56. Of
     * those only u = 56, at the last step of the period of 1824, has 143 + 20 * 53 / 57.
     */
    private static void comesLast() {
        CHECKS.of("Promise 9", "Returns the first step at which its pen is at this point");
        due("the last step of 1824", plateOf("E96i572000").comes(0, 95, 161), 1823);
        due("the last step of 1824 from the start 95", plateOf("E96i572095").comes(0, 94, 161), 1823);
        due("the last step of 72", plateOf("E24i092000").comes(0, 23, 202), 71);
        due("the last step of 12", plateOf("E12i122000").comes(0, 11, 201), 11);
    }

    private static void comesNever() {
        CHECKS.of("Promise 9", "NONE if it never is.");
        RosettePlate x = plateOf("E24i100800");
        due("a radius between two", x.comes(0, 0, 197), NONE);
        due("a radius below all", x.comes(0, 1, 181), NONE);
        due("a radius above all", x.comes(0, 0, 199), NONE);
        due("a radius of other angles", x.comes(0, 1, 198), NONE);
    }

    private static void comesWithoutLayer() {
        CHECKS.of("Promise 9", "Throws `IndexOutOfBoundsException` if there is no such layer");
        for (int l : new int[] {-1, 3, 6, Integer.MIN_VALUE, Integer.MAX_VALUE}) {
            noIndex("comes(" + l + ", 0, 0)", x -> x.comes(l, 0, 0));
            noIndex("comes(" + l + ", 30, 301)", x -> x.comes(l, 30, 301));
        }
        CHECKS.refused("comes(0, 0, 0) of none", Checks.INDEX, Plates::bare, x -> x.comes(0, 0, 0));
    }

    private static void comesOutOfRange() {
        CHECKS.of("Promise 9", "Throws `IllegalArgumentException` if angle or radius is out of range");
        for (int wrong : new int[] {-1, 30, Integer.MIN_VALUE, Integer.MAX_VALUE}) {
            noArgument("comes(0, " + wrong + ", 300)", x -> x.comes(0, wrong, 300));
        }
        for (int wrong : new int[] {-1, 301, Integer.MIN_VALUE, Integer.MAX_VALUE}) {
            noArgument("comes(0, 29, " + wrong + ")", x -> x.comes(0, 29, wrong));
        }
        noArgument("comes(0, -1, -1)", x -> x.comes(0, -1, -1));
    }

    // ---- Promise 10: at

    private static void atRanges() {
        CHECKS.of("Promise 10", "`radius`: 0 to 300");
        RosettePlate x = plateOf("E96i602000o602000");
        due("at(0)", x.at(0), 0);
        due("at(300)", x.at(300), 0);
        // The u's 30 and 0 are those of 8 angles each.
        due("at(119)", x.at(119), 0);
        due("at(120)", x.at(120), 8);
        due("at(280)", x.at(280), 8);
        due("at(281)", x.at(281), 0);
    }

    private static void atDifferentPoints() {
        CHECKS.of("Promise 10", "Returns how many different points of all rosettes have this radius.");
        due("no layers", plateOf("E24s00198").at(198), 0);
        due("a layer and itself", plateOf("E24i100800i100800").at(198), 12);
        due("a layer and itself at the other angles", plateOf("E24i100800i100801").at(198), 24);
        due("all angles of 96", plateOf("E96i050000i050017").at(195), 96);
        due("all angles of 12", plateOf("E12i120011").at(188), 12);
    }

    private static void atOutOfRange() {
        CHECKS.of("Promise 10", "Throws `IllegalArgumentException` if radius is out of range");
        for (int wrong : new int[] {-1, 301, Integer.MIN_VALUE, Integer.MAX_VALUE}) {
            noArgument("at(" + wrong + ")", x -> x.at(wrong));
            CHECKS.refused("at(" + wrong + ") of no layers", Checks.ARGUMENT, Plates::bare, x -> x.at(wrong));
        }
    }

    // ---- Promise 11: blank

    private static void blankDifferences() {
        CHECKS.of("Promise 11", "Returns the greatest difference of two radii of points of all rosettes between which no"
            + " other point has its radius");
        due("the radii 196 and 195", plateOf("E24i050100").blank(), 1);
        due("the radii 140 and 260", plateOf("E24i600000o600000").blank(), 120);
        due("the radii 260 and 140", plateOf("E24o600000i600000").blank(), 120);
        due("the radii 140, 195 and 260", plateOf("E24i600000i050000o600000").blank(), 65);
        due("the radii 140, 205 and 260", plateOf("E24i600000o600000o050000").blank(), 65);
        // The wheel of 12 in the ring of 12 is at 168 and at 208 at one angle each; 140 and 260 are 28 and 52 away.
        due("a radius with one point as the greatest", plateOf("E12i122000o600000").blank(), 52);
        due("a radius with one point as the smallest", plateOf("E12i122000i600000").blank(), 28);
        // 190 down to 182 go by 4, 198 down to 194 too; 260 is 62 above all.
        due("the radii of A and 260", plateOf("E24o600000i100800").blank(), 62);
        due("the radii of A and 140", plateOf("E24i600000i100800").blank(), 42);
    }

    private static void blankOfOneRadius() {
        CHECKS.of("Promise 11", "0 if all points have one radius");
        due("one layer", plateOf("E24i100000").blank(), 0);
        due("six layers", plateOf("E12" + "o600003".repeat(6)).blank(), 0);
    }

    private static void blankWithoutLayers() {
        CHECKS.of("Promise 11", "NONE if there are no layers.");
        due("a new object", new RosettePlate().blank(), NONE);
        RosettePlate x = plateOf("E24i100800s00000");
        due("a layer", x.blank(), 4);
        x.remove(0);
        due("no layer any more", x.blank(), NONE);
    }

    // ---- Promise 12: together

    private static void togetherSmallest() {
        CHECKS.of("Promise 12",
            "Returns the smallest number of steps above 0 that is a multiple of the periods of all layers");
        due("one layer", plateOf("E24i100800").together(), 120);
        due("one turn", plateOf("E12i120000").together(), 12);
        due("six layers alike", plateOf("E24" + "i100800".repeat(6)).together(), 120);
        due("periods of 24 and 48", plateOf("E24i240000i480000").together(), 48);
        due("periods of 48 and 24", plateOf("E24i480000i240000").together(), 48);
        due("periods of 120 and 48", plateOf("E24i100000i160000").together(), 240);
        due("an odd period", plateOf("E13i130000").together(), 13);
        due("two odd periods", plateOf("E15i050000i070000").together(), 105);
        // 96 * 59 * 53 * 47 * 43 * 41 * 37 have no divisor in common: more than any int.
        due("six primes in 96", plateOf("E96i590000i530000i470000i430000i410000i370000").together(),
            96L * 59 * 53 * 47 * 43 * 41 * 37);
    }

    private static void togetherWithoutLayers() {
        CHECKS.of("Promise 12", "0 without layers.");
        due("a new object", new RosettePlate().together(), 0);
        RosettePlate x = plateOf("E24i100800s00198");
        x.remove(0);
        due("no layer any more", x.together(), 0);
    }

    // ---- Promise 13: order

    /** In a ring of 24 the wheels 6, 8, 12, 24 close after 1 turn with 4, 3, 2, 1 lobes, the wheel of 16 after 2. */
    private static void orderOfTurnsLobesNumbers() {
        CHECKS.of("Promise 13", "those with fewer turns first, of those with as many turns those with more lobes, then"
            + " by their numbers. .. `place`: 0 or more .. Returns the layer with this place in that order, from 0");
        ordered("i240000i120000i080000i060000", 3, 2, 1, 0);
        ordered("i060000i080000i120000i240000", 0, 1, 2, 3);
        ordered("i160000i240000", 1, 0);
        ordered("i240000i160000", 0, 1);
        ordered("i100800o100000i101823i100800o102011i100801", 0, 1, 2, 3, 4, 5);
        ordered("i100800i060000i100800i060000i160000i060000", 1, 3, 5, 4, 0, 2);
        ordered("i050000", 0);
    }

    private static void ordered(String layers, int... want) {
        RosettePlate x = plateOf("E24" + layers);
        for (int place = 0; place < want.length; place++) {
            due("place " + place + " of " + layers, x.order(place), want[place]);
        }
        due("the place behind the last of " + layers, x.order(want.length), NONE);
    }

    private static void orderBehindTheLast() {
        CHECKS.of("Promise 13", "NONE if there are not so many.");
        due("place 0 of none", new RosettePlate().order(0), NONE);
        RosettePlate x = Plates.sixLayers();
        due("place 6 of six", x.order(6), NONE);
        due("the greatest place", x.order(Integer.MAX_VALUE), NONE);
        CHECKS.holds("place 5 of six is a layer", x.order(5) >= 0);
        x.remove(5);
        due("place 5 of five", x.order(5), NONE);
    }

    private static void orderOutOfRange() {
        CHECKS.of("Promise 13", "Throws `IllegalArgumentException` if place is negative");
        noArgument("order(-1)", x -> x.order(-1));
        noArgument("order(the least int)", x -> x.order(Integer.MIN_VALUE));
        CHECKS.refused("order(-1) of none", Checks.ARGUMENT, Plates::bare, x -> x.order(-1));
    }

    // ---- Promise 14: sighting

    private static void sightingOldest() {
        CHECKS.of("Promise 14", "`i`: sighting, 0 for the oldest one that is kept .. `what`: 0: its angle; 1: its radius");
        RosettePlate x = new RosettePlate();
        x.see(23, 300);
        x.see(0, 0);
        due("the angle of the oldest", x.sighting(0, 0), 23);
        due("the radius of the oldest", x.sighting(0, 1), 300);
        due("the angle of the newest", x.sighting(1, 0), 0);
        due("the radius of the newest", x.sighting(1, 1), 0);
        for (int i = 2; i < 8; i++) {
            x.see(i, i);
        }
        due("the oldest of eight", x.sighting(0, 0), 23);
        due("the newest of eight", x.sighting(7, 0), 7);
        x.see(8, 8);
        due("the oldest that is kept of nine", x.sighting(0, 0), 0);
        due("the newest of nine", x.sighting(7, 0), 8);
    }

    private static void sightingHowMany() {
        CHECKS.of("Promise 14", "2: how many layers have it as a point");
        due("no layers", plateOf("E24s00198").sighting(0, 2), 0);
        due("none of six", plateOf("E24" + "i100801".repeat(6) + "s00198").sighting(0, 2), 0);
        due("six of six", plateOf("E24" + "i100800".repeat(6) + "s00198").sighting(0, 2), 6);
        due("one that other sightings keep from fitting", plateOf("E24i100800s00198s00300").sighting(0, 2), 1);
        due("the other one", plateOf("E24i100800s00198s00300").sighting(1, 2), 0);
    }

    private static void noSuchSighting() {
        CHECKS.of("Promise 14", "Throws `IndexOutOfBoundsException` if there is no such sighting");
        for (int i : new int[] {-1, 3, 8, Integer.MIN_VALUE, Integer.MAX_VALUE}) {
            noIndex("sighting(" + i + ", 0)", x -> x.sighting(i, 0));
            noIndex("sighting(" + i + ", -1)", x -> x.sighting(i, -1));
        }
        CHECKS.refused("sighting(0, 0) of none", Checks.INDEX, Plates::bare, x -> x.sighting(0, 0));
        CHECKS.refused("sighting(8, 0) of eight", Checks.INDEX, Plates::eightSightings, x -> x.sighting(8, 0));
        RosettePlate x = Plates.eightSightings();
        due("sighting(7, 0) of eight", x.sighting(7, 0), 7);
        x.forget();
        CHECKS.due("sighting(0, 0) of none any more", () -> x.sighting(0, 0), Checks.INDEX);
    }

    private static void sightingOutOfRange() {
        CHECKS.of("Promise 14", "Throws `IllegalArgumentException` if what is not 0 to 2");
        for (int what : new int[] {-1, 3, Integer.MIN_VALUE, Integer.MAX_VALUE}) {
            noArgument("sighting(0, " + what + ")", x -> x.sighting(0, what));
            noArgument("sighting(2, " + what + ")", x -> x.sighting(2, what));
        }
    }
}
