/**
 * Worked examples and edges for each promise, 1 to 31. Most of them use two layers in a ring of 24 teeth:
 * A, i100800: steps go by the radii 198 194 191 189 186 182 186 189 191 194; the even ones of its ten steps come to
 * even angles only, so each of its 6 radii has 12 points. B, o160400: the radii 220 down to 212, in 45 points.
 */
public final class PromiseTest {
    private static final int NONE = RosettePlate.NONE;
    private static final String A = "i100800";
    private static final String B = "o160400";
    private static final Class<IllegalArgumentException> ARGUMENT = IllegalArgumentException.class;
    private static final Class<IllegalStateException> STATE = IllegalStateException.class;
    private static final Checks CHECKS = new Checks();

    public static void main(String[] args) {
        textPromises();
        whatThereIs();
        twoRosettes();
        actions();
        whatWouldBe();
        scriptsAndSimulations();
        saveSlots();
        CHECKS.close();
    }

    private static void due(String what, long got, long want) {
        CHECKS.due(what, got, want);
    }

    private static RosettePlate plateOf(String text) {
        return Checks.plateOf(text);
    }

    private static void textPromises() {
        newObject();
        append();
        clearText();
        errorPosition();
        load();
    }

    private static void whatThereIs() {
        about();
        layer();
        pen();
        comes();
        at();
        blank();
        together();
        order();
        sighting();
    }

    private static void twoRosettes() {
        common();
        meet();
        turned();
    }

    private static void actions() {
        setRing();
        addLayer();
        change();
        remove();
        see();
        forget();
        undo();
        everyActionIsRemembered();
    }

    private static void whatWouldBe() {
        bestStart();
        wheels();
        wheelFor();
    }

    private static void scriptsAndSimulations() {
        scriptsThatChange();
        scriptsThatAsk();
        scriptsThatFail();
        simulate();
    }

    private static void saveSlots() {
        save();
        restore();
    }

    /** Promise 1. */
    private static void newObject() {
        RosettePlate x = new RosettePlate();
        due("NONE", RosettePlate.NONE, -9);
        due("ring of a new object", x.about(0), 24);
        due("layers of a new object", x.about(1), 0);
        due("sightings of a new object", x.about(2), 0);
        due("text of a new object", x.clearText(), 0);
        CHECKS.due("undo of a new object", x::undo, STATE);
        CHECKS.due("restore(0) of a new object", () -> x.restore(0), STATE);
        CHECKS.due("restore(1) of a new object", () -> x.restore(1), STATE);
        RosettePlate other = new RosettePlate();
        x.setRing(30);
        x.append('E');
        due("ring of another object", other.about(0), 24);
        due("text of another object", other.clearText(), 0);
    }

    /** Promise 2. */
    private static void append() {
        RosettePlate x = new RosettePlate();
        due("append(0)", x.append(0), 1);
        due("append(255)", x.append(255), 2);
        CHECKS.due("append(-1)", () -> x.append(-1), ARGUMENT);
        CHECKS.due("append(256)", () -> x.append(256), ARGUMENT);
        for (int length = 3; length <= 100; length++) {
            due("append to " + length, x.append('E'), length);
        }
        CHECKS.due("append to 101", () -> x.append('E'), STATE);
        CHECKS.due("append(256) to 101", () -> x.append(256), ARGUMENT);
        due("length of a full text", x.clearText(), 100);
        due("append after clearText", x.append('E'), 1);
    }

    /** Promise 3. */
    private static void clearText() {
        RosettePlate x = new RosettePlate();
        due("clearText of no text", x.clearText(), 0);
        Checks.type(x, "E12i050");
        due("clearText", x.clearText(), 7);
        due("clearText again", x.clearText(), 0);
        due("errorPosition of no text", x.errorPosition(), 0);
        Checks.type(x, "E30");
        due("load of the new text", x.load(), 0);
        due("ring of the new text", x.about(0), 30);
    }

    /** Promise 4. */
    private static void errorPosition() {
        String layers = "E12" + "i050000o602011".repeat(3);
        String sightings = "s00000s11300".repeat(4);
        error("", 0);
        error("e12", 0);
        error(" E12", 0);
        error("E", 1);
        error("E0", 1);
        error("EA", 1);
        error("E1", 2);
        error("E11", 2);
        error("E10", 2);
        error("E12", NONE);
        error("E96", NONE);
        error("E97", 2);
        error("E9:", 2);
        error("E9/", 2);
        error("E12 ", 3);
        error("E12I", 3);
        error("E12E", 3);
        error("E129", 3);
        error("E12i", 4);
        error("E12i7", 4);
        error("E12i0", 5);
        error("E12i04", 5);
        error("E12i05", 6);
        error("E12i61", 5);
        error("E12i60", 6);
        error("E12i603", 6);
        error("E12i602", 7);
        error("E12i6021", 7);
        error("E12i6020", 8);
        error("E12i60202", 8);
        error("E12i60201", 9);
        error("E12i602012", 9);
        error("E12i602011", NONE);
        error("E96o052095", NONE);
        error("E96o052096", 9);
        error("E12s", 4);
        error("E12s2", 4);
        error("E12s12", 5);
        error("E12s11", 6);
        error("E12s114", 6);
        error("E12s113", 7);
        error("E12s1131", 7);
        error("E12s11301", 8);
        error("E12s11300", NONE);
        error("E12s11299", NONE);
        error("E12s00000i050000s00000o050000", NONE);
        error(layers, NONE);
        error(layers + "i", 45);
        error(layers + "o", 45);
        error(layers + sightings, NONE);
        error(layers + sightings + "s", 93);
        error(layers + sightings + "i", 93);
        error("E12" + sightings, NONE);
        error("E12" + sightings + "i050000", NONE);
        error("E12" + sightings + "s", 51);
    }

    private static void error(String text, int want) {
        RosettePlate x = plateOf("E40" + A);
        Checks.type(x, text);
        due("errorPosition of " + text, x.errorPosition(), want);
        due("errorPosition of " + text + " again", x.errorPosition(), want);
        due("layers after errorPosition of " + text, x.about(0) * 10 + x.about(1), 401);
    }

    /** Promise 5. */
    private static void load() {
        RosettePlate x = new RosettePlate();
        x.addLayer(7, 0, 0, 0);
        x.save(0);
        x.save(1);
        CHECKS.due("load of no text", x::load, STATE);
        Checks.type(x, "E30o160429s29188i100800s00000");
        due("load", x.load(), 2);
        due("ring loaded", x.about(0), 30);
        due("sightings loaded", x.about(2), 2);
        due("wheel loaded", x.layer(0, 0), 16);
        due("side loaded", x.layer(0, 1), 1);
        due("hole loaded", x.layer(0, 2), 4);
        due("start loaded", x.layer(0, 3), 29);
        due("side i loaded", x.layer(1, 1), 0);
        due("angle loaded", x.sighting(0, 0), 29);
        due("radius loaded", x.sighting(0, 1), 188);
        due("radius of the second sighting loaded", x.sighting(1, 1), 0);
        CHECKS.due("undo after load", x::undo, STATE);
        CHECKS.due("restore(0) after load", () -> x.restore(0), STATE);
        CHECKS.due("restore(1) after load", () -> x.restore(1), STATE);
        due("load again", x.load(), 2);
        x.append('x');
        String before = Checks.view(x);
        CHECKS.due("load of a text with a fault", x::load, STATE);
        CHECKS.same("the state after it", Checks.view(x), before);
        due("text after load", x.clearText(), 30);
        Checks.type(x, "E12");
        due("load of a bare ring", x.load(), 0);
        due("sightings of a bare ring", x.about(2), 0);
    }

    /** Promise 6. */
    private static void about() {
        RosettePlate x = plateOf("E24" + A + B + "s00198s02191");
        due("about(0)", x.about(0), 24);
        due("about(1)", x.about(1), 2);
        due("about(2)", x.about(2), 2);
        due("about(3)", x.about(3), 72 + 45);
        due("about(4)", x.about(4), 182);
        due("about(5)", x.about(5), 220);
        due("about(6)", x.about(6), 1);
        due("about(4) with the layers the other way round", plateOf("E24" + B + A).about(4), 182);
        due("about(5) with the layers the other way round", plateOf("E24" + B + A).about(5), 220);
        due("about(3) of the same rosette twice", plateOf("E24" + A + "i100802").about(3), 72);
        due("about(3) of a rosette and its turned one", plateOf("E24" + A + "i100801").about(3), 144);
        due("about(6) without sightings", plateOf("E24" + A + B).about(6), 2);
        RosettePlate empty = plateOf("E24s00198");
        due("about(3) without layers", empty.about(3), 0);
        due("about(4) without layers", empty.about(4), NONE);
        due("about(5) without layers", empty.about(5), NONE);
        due("about(6) without layers", empty.about(6), 0);
        CHECKS.due("about(-1)", () -> x.about(-1), ARGUMENT);
        CHECKS.due("about(7)", () -> x.about(7), ARGUMENT);
    }

    /** Promise 7. */
    private static void layer() {
        RosettePlate x = plateOf("E24i100807" + B);
        long[] first = {10, 0, 8, 7, 120, 5, 12, 72, 182, 198};
        long[] second = {16, 1, 4, 0, 48, 2, 3, 45, 212, 220};
        for (int what = 0; what <= 9; what++) {
            due("layer(0, " + what + ")", x.layer(0, what), first[what]);
            due("layer(1, " + what + ")", x.layer(1, what), second[what]);
        }
        RosettePlate odd = plateOf("E95i592094o600000");
        due("period of 59 in 95", odd.layer(0, 4), 5605);
        due("turns of 59 in 95", odd.layer(0, 5), 59);
        due("lobes of 59 in 95", odd.layer(0, 6), 95);
        due("least radius of an odd wheel", odd.layer(0, 8), 122);
        due("greatest radius of an odd wheel", odd.layer(0, 9), 161);
        due("points of hole 0", odd.layer(1, 7), 95);
        due("least radius of hole 0", odd.layer(1, 8), 260);
        due("greatest radius of hole 0", odd.layer(1, 9), 260);
    }

    /** Promise 8. */
    private static void pen() {
        RosettePlate x = plateOf("E24i100823" + B);
        int[] radii = {198, 194, 191, 189, 186, 182, 186, 189, 191, 194};
        for (int t = 0; t < 50; t++) {
            due("pen(0, " + t + ")", x.pen(0, t), 1000 * ((23 + t) % 24) + radii[t % 10]);
        }
        due("pen(1, 8)", x.pen(1, 8), 8212);
        due("pen(1, 13)", x.pen(1, 13), 13217);
        due("pen(0, the greatest long)", x.pen(0, Long.MAX_VALUE), 6189);
        due("pen(0, 3000000000)", x.pen(0, 3000000000L), 23198);
        CHECKS.due("pen(0, -1)", () -> x.pen(0, -1), ARGUMENT);
        CHECKS.due("pen(0, the least long)", () -> x.pen(0, Long.MIN_VALUE), ARGUMENT);
    }

    /** Promise 9. */
    private static void comes() {
        RosettePlate x = plateOf("E24" + A + "i100823");
        due("comes(0, 0, 198)", x.comes(0, 0, 198), 0);
        due("comes(0, 5, 182)", x.comes(0, 5, 182), 5);
        due("comes(0, 1, 182)", x.comes(0, 1, 182), 25);
        due("comes(0, 2, 198)", x.comes(0, 2, 198), 50);
        due("comes(0, 8, 191)", x.comes(0, 8, 191), 8);
        due("comes(0, 0, 182)", x.comes(0, 0, 182), NONE);
        due("comes(0, 0, 190)", x.comes(0, 0, 190), NONE);
        due("comes(1, 23, 198)", x.comes(1, 23, 198), 0);
        due("comes(1, 0, 194)", x.comes(1, 0, 194), 1);
        due("comes(1, 22, 194)", x.comes(1, 22, 194), 71);
        due("comes(0, 23, 300)", x.comes(0, 23, 300), NONE);
        due("comes(0, 0, 0)", x.comes(0, 0, 0), NONE);
        CHECKS.due("comes(0, -1, 198)", () -> x.comes(0, -1, 198), ARGUMENT);
        CHECKS.due("comes(0, 24, 198)", () -> x.comes(0, 24, 198), ARGUMENT);
        CHECKS.due("comes(0, 0, -1)", () -> x.comes(0, 0, -1), ARGUMENT);
        CHECKS.due("comes(0, 0, 301)", () -> x.comes(0, 0, 301), ARGUMENT);
    }

    /** Promise 10. */
    private static void at() {
        due("at without layers", new RosettePlate().at(198), 0);
        due("at(198) of A", plateOf("E24" + A).at(198), 12);
        due("at(198) of A and of itself", plateOf("E24" + A + A).at(198), 12);
        due("at(198) of A and of A turned", plateOf("E24" + A + "i100801").at(198), 24);
        due("at(216) of B", plateOf("E24" + A + B).at(216), 3);
        due("at(217) of B", plateOf("E24" + A + B).at(217), 6);
        due("at(190) of a ring of 96", plateOf("E96i100000").at(190), 96);
        due("at(120)", plateOf("E96i602000").at(120), 8);
        due("at(280)", plateOf("E96o602000").at(280), 8);
        due("at(0)", plateOf("E24" + A).at(0), 0);
        due("at(300)", plateOf("E24" + A).at(300), 0);
        CHECKS.due("at(301)", () -> plateOf("E24" + A).at(301), ARGUMENT);
        CHECKS.due("at(-1)", () -> plateOf("E24" + A).at(-1), ARGUMENT);
    }

    /** Promise 11. */
    private static void blank() {
        due("blank without layers", new RosettePlate().blank(), NONE);
        due("blank of A", plateOf("E24" + A).blank(), 4);
        due("blank of one radius", plateOf("E24i100000").blank(), 0);
        due("blank of one radius twice", plateOf("E24i100000i100005").blank(), 0);
        due("blank of A and B", plateOf("E24" + A + B).blank(), 14);
        due("blank of A and B with 205 between", plateOf("E24" + A + B + "o050000").blank(), 7);
        due("blank of 140 and 260", plateOf("E24i600000o600000").blank(), 120);
    }

    /** Promise 12. */
    private static void together() {
        due("together without layers", new RosettePlate().together(), 0);
        due("together of A", plateOf("E24" + A).together(), 120);
        due("together of A and A", plateOf("E24" + A + A).together(), 120);
        due("together of A and B", plateOf("E24" + A + B).together(), 240);
        due("together of A, B and 7", plateOf("E24" + A + B + "i070000").together(), 1680);
        due("together of 24 in 24", plateOf("E24i240000").together(), 24);
        due("together of six primes in a seventh one",
            plateOf("E89i590000i530000i470000i430000i410000i370000").together(), 853237200671L);
    }

    /** Promise 13. */
    private static void order() {
        RosettePlate x = plateOf("E24i100000i160000i080000i120000i060000i120000");
        int[] want = {4, 2, 3, 5, 1, 0, NONE, NONE};
        for (int place = 0; place < want.length; place++) {
            due("order(" + place + ")", x.order(place), want[place]);
        }
        RosettePlate right = plateOf("E24i060000i080000i080000i160000");
        for (int place = 0; place < 4; place++) {
            due("order(" + place + ") of layers that are in order", right.order(place), place);
        }
        due("order(the greatest int)", x.order(Integer.MAX_VALUE), NONE);
        due("order(0) without layers", new RosettePlate().order(0), NONE);
        CHECKS.due("order(-1)", () -> x.order(-1), ARGUMENT);
    }

    /** Promise 14. */
    private static void sighting() {
        RosettePlate x = plateOf("E24" + A + "i100802" + B + "s00198s05182s00182s00220");
        long[][] want = {{0, 198, 2}, {5, 182, 2}, {0, 182, 0}, {0, 220, 1}};
        for (int i = 0; i < want.length; i++) {
            for (int what = 0; what <= 2; what++) {
                due("sighting(" + i + ", " + what + ")", x.sighting(i, what), want[i][what]);
            }
        }
        CHECKS.due("sighting(0, -1)", () -> x.sighting(0, -1), ARGUMENT);
        CHECKS.due("sighting(0, 3)", () -> x.sighting(0, 3), ARGUMENT);
        CHECKS.due("sighting(4, 0)", () -> x.sighting(4, 0), IndexOutOfBoundsException.class);
    }

    /** Promise 15. The rosette i100401 has the radii 194 and 192 at odd steps but a start of 1. */
    private static void common() {
        RosettePlate x = plateOf("E24" + A + "i100801" + "i100806" + "i100401" + B);
        due("common of a rosette and its copy", x.common(0, 2), 72);
        due("common of a rosette and itself", x.common(0, 0), 72);
        due("common of a rosette and one turned by 1", x.common(0, 1), 0);
        due("common of holes 8 and 4", x.common(0, 3), 24);
        due("common of holes 4 and 8", x.common(3, 0), 24);
        due("common of A and B", x.common(0, 4), 0);
        due("common of B and itself", x.common(4, 4), 45);
    }

    /** Promise 16. */
    private static void meet() {
        RosettePlate x = plateOf("E24" + A + "i120800" + "i120801" + "i100400" + "i100801");
        due("meet of a layer and itself", x.meet(0, 0), 0);
        due("meet of the wheels 10 and 12", x.meet(0, 1), 4);
        due("meet of the wheels 12 and 10", x.meet(1, 0), 4);
        due("meet with another start", x.meet(0, 2), NONE);
        due("meet of holes 8 and 4", x.meet(0, 3), NONE);
        due("meet of a layer and one turned by 1", x.meet(0, 4), NONE);
        due("meet behind every turn", plateOf("E12i100811i210311").meet(0, 1), 105);
    }

    /** Promise 17. */
    private static void turned() {
        RosettePlate x = plateOf("E24" + A + "i100805" + B + "o160405" + "o160423" + "i100700");
        due("turned of a layer and itself", x.turned(0, 0), 0);
        due("turned of A to the start 5", x.turned(0, 1), 1);
        due("turned of A back", x.turned(1, 0), 1);
        due("turned of B to the start 5", x.turned(2, 3), 5);
        due("turned of B back", x.turned(3, 2), 3);
        due("turned of B from 23 to 5", x.turned(4, 3), 6);
        due("turned of B from 5 to 23", x.turned(3, 4), 2);
        due("turned to another hole", x.turned(0, 5), NONE);
        due("turned to another side", x.turned(0, 2), NONE);
        due("turned of hole 0", plateOf("E24i160000i160005").turned(0, 1), 0);
        due("turned of a wheel that reaches all teeth", plateOf("E24i070500i070505").turned(0, 1), 0);
        due("turned by most of a wheel", plateOf("E96i480100i480147").turned(0, 1), 47);
    }

    /** Promise 18. */
    private static void setRing() {
        RosettePlate x = plateOf("E24i100823i100811i100812s23198s11198s12198");
        due("setRing(12)", x.setRing(12), 24);
        due("ring after it", x.about(0), 12);
        due("start 23 in a ring of 12", x.layer(0, 3), 0);
        due("start 11 in a ring of 12", x.layer(1, 3), 11);
        due("start 12 in a ring of 12", x.layer(2, 3), 0);
        due("angle 23 in a ring of 12", x.sighting(0, 0), 0);
        due("radius of it", x.sighting(0, 1), 198);
        due("angle 11 in a ring of 12", x.sighting(1, 0), 11);
        due("angle 12 in a ring of 12", x.sighting(2, 0), 0);
        due("sightings in a ring of 12", x.about(2), 3);
        due("setRing(96)", x.setRing(96), 12);
        due("start 0 in a ring of 96", x.layer(0, 3), 0);
        due("start 11 in a ring of 96", x.layer(1, 3), 11);
        due("setRing(96) again", x.setRing(96), 96);
        due("undo of setRing that changes nothing", x.undo(), 2);
        due("ring after it", x.about(0), 96);
        x.undo();
        due("undo of all", x.undo(), 0);
        due("start after all are undone", x.layer(0, 3), 23);
        due("angle after all are undone", x.sighting(0, 0), 23);
        CHECKS.due("setRing(11)", () -> x.setRing(11), ARGUMENT);
        CHECKS.due("setRing(97)", () -> x.setRing(97), ARGUMENT);
    }

    /** Promise 19. */
    private static void addLayer() {
        RosettePlate x = new RosettePlate();
        int[][] wrong = {{4, 0, 0, 0}, {61, 0, 0, 0}, {5, -1, 0, 0}, {5, 2, 0, 0}, {5, 0, -1, 0}, {5, 0, 21, 0},
            {5, 0, 0, -1}, {5, 0, 0, 24}};
        for (int[] v : wrong) {
            CHECKS.due("addLayer with " + v[0] + " " + v[1] + " " + v[2] + " " + v[3],
                () -> x.addLayer(v[0], v[1], v[2], v[3]), ARGUMENT);
        }
        due("addLayer 5", x.addLayer(5, 0, 0, 0), 0);
        due("addLayer 60", x.addLayer(60, 1, 20, 23), 1);
        due("wheel", x.layer(1, 0), 60);
        due("side", x.layer(1, 1), 1);
        due("hole", x.layer(1, 2), 20);
        due("start", x.layer(1, 3), 23);
        for (int l = 2; l < 6; l++) {
            due("addLayer " + l, x.addLayer(10 + l, 0, l, l), l);
        }
        CHECKS.due("a seventh layer", () -> x.addLayer(5, 0, 0, 0), STATE);
        CHECKS.due("a seventh layer with a wrong wheel", () -> x.addLayer(4, 0, 0, 0), ARGUMENT);
        due("layers", x.about(1), 6);
        due("first wheel", x.layer(0, 0), 5);
        due("last wheel", x.layer(5, 0), 15);
        due("undo of a layer", x.undo(), 5);
        due("layers then", x.about(1), 5);
    }

    /** Promise 20. */
    private static void change() {
        RosettePlate x = plateOf("E24i100807" + B);
        int[][] changes = {{0, 60, 10}, {0, 5, 60}, {1, 1, 0}, {1, 0, 1}, {2, 20, 8}, {2, 0, 20}, {3, 23, 7}, {3, 0, 23}};
        for (int[] c : changes) {
            due("change(0, " + c[0] + ", " + c[1] + ")", x.change(0, c[0], c[1]), c[2]);
            due("the number then", x.layer(0, c[0]), c[1]);
        }
        CHECKS.same("the other layer", x.layer(1, 0) + " " + x.layer(1, 1) + " " + x.layer(1, 2) + " " + x.layer(1, 3),
            "16 1 4 0");
        int[][] wrong = {{0, 4}, {0, 61}, {1, -1}, {1, 2}, {2, -1}, {2, 21}, {3, -1}, {3, 24}, {-1, 5}, {4, 5}};
        for (int[] w : wrong) {
            CHECKS.due("change(0, " + w[0] + ", " + w[1] + ")", () -> x.change(0, w[0], w[1]), ARGUMENT);
        }
        due("change to the same", x.change(0, 3, 0), 0);
        due("undo of it", x.undo(), 8);
        due("undo of the last change", x.undo(), 7);
        due("start then", x.layer(0, 3), 23);
        x.setRing(96);
        due("change to the greatest start of another ring", x.change(0, 3, 95), 23);
    }

    /** Promise 21. */
    private static void remove() {
        RosettePlate x = plateOf("E24i100801o200502i300903s00198");
        due("remove(1)", x.remove(1), 2);
        CHECKS.same("the layer behind it", x.layer(1, 0) + " " + x.layer(1, 1) + " " + x.layer(1, 2) + " " + x.layer(1, 3),
            "30 0 9 3");
        due("the layer ahead of it", x.layer(0, 0), 10);
        CHECKS.due("the layer that is away", () -> x.layer(2, 0), IndexOutOfBoundsException.class);
        due("remove(0)", x.remove(0), 1);
        due("the only layer", x.layer(0, 0), 30);
        due("remove(0) of the only one", x.remove(0), 0);
        CHECKS.due("remove(0) of none", () -> x.remove(0), IndexOutOfBoundsException.class);
        due("sightings after all", x.about(2), 1);
        due("undo of remove", x.undo(), 2);
        x.undo();
        x.undo();
        CHECKS.same("all layers again", x.layer(0, 0) + " " + x.layer(1, 0) + " " + x.layer(2, 0), "10 20 30");
        due("addLayer after remove", x.addLayer(7, 0, 0, 0), 3);
    }

    /** Promise 22. */
    private static void see() {
        RosettePlate x = plateOf("E24" + A + "i100802" + "i120800");
        due("see a point of two", x.see(4, 186), 3);
        due("see a point of two layers only", x.see(0, 198), 2);
        due("see a point that none has", x.see(0, 300), 0);
        due("see a point of two then", x.see(0, 198), 0);
        due("sightings", x.about(2), 4);
        for (int i = 4; i < 8; i++) {
            due("see the sighting " + i, x.see(i, i), 0);
        }
        due("sightings when full", x.about(2), 8);
        due("see a ninth one", x.see(23, 0), 0);
        due("sightings then", x.about(2), 8);
        due("the oldest one then", x.sighting(0, 1), 198);
        due("the newest one then", x.sighting(7, 0), 23);
        x.see(0, 198);
        x.see(0, 198);
        due("the oldest one after eleven", x.sighting(0, 1), 198);
        due("undo of see", x.undo(), 10);
        due("the oldest one after undo", x.sighting(0, 1), 300);
        x.forget();
        for (int i = 0; i < 8; i++) {
            x.see(i % 2, 0);
        }
        for (int i = 0; i < 7; i++) {
            due("see while one is false", x.see(0, 198), 0);
        }
        due("see when the last false one is forgotten", x.see(0, 198), 2);
        CHECKS.due("see(-1, 0)", () -> x.see(-1, 0), ARGUMENT);
        CHECKS.due("see(24, 0)", () -> x.see(24, 0), ARGUMENT);
        CHECKS.due("see(0, -1)", () -> x.see(0, -1), ARGUMENT);
        CHECKS.due("see(0, 301)", () -> x.see(0, 301), ARGUMENT);
    }

    /** Promise 23. */
    private static void forget() {
        RosettePlate x = plateOf("E24" + A + "s00198s00300");
        due("fitting before", x.about(6), 0);
        due("forget", x.forget(), 2);
        due("sightings then", x.about(2), 0);
        due("fitting then", x.about(6), 1);
        due("layers then", x.about(1), 1);
        due("forget again", x.forget(), 0);
        due("undo of a forget of nothing", x.undo(), 1);
        due("undo of forget", x.undo(), 0);
        due("sightings again", x.about(2), 2);
        due("the second one again", x.sighting(1, 1), 300);
    }

    /** Promise 24. */
    private static void undo() {
        RosettePlate x = new RosettePlate();
        CHECKS.due("undo of nothing", x::undo, STATE);
        for (int teeth = 31; teeth <= 46; teeth++) {
            x.setRing(teeth);
        }
        for (int left = 13; left >= 0; left--) {
            due("undo to " + left, x.undo(), left);
            due("ring with " + left, x.about(0), 32 + left);
        }
        CHECKS.due("undo when all is taken back", x::undo, STATE);
        due("ring when all is taken back", x.about(0), 32);
        x.setRing(50);
        x.setRing(51);
        due("undo is no action", x.undo(), 1);
        x.setRing(52);
        due("undo of the new action", x.undo(), 1);
        due("ring then", x.about(0), 50);
        due("undo of the old one", x.undo(), 0);
        due("ring at the end", x.about(0), 32);
        x.append('E');
        x.save(0);
        CHECKS.due("undo of no action", x::undo, STATE);
        due("text", x.clearText(), 1);
    }

    private static void everyActionIsRemembered() {
        RosettePlate x = plateOf("E24" + A + "s00198");
        String before = Checks.view(x);
        x.setRing(12);
        x.addLayer(20, 1, 3, 11);
        x.change(0, 0, 50);
        x.see(1, 1);
        x.forget();
        x.remove(0);
        for (int left = 5; left >= 0; left--) {
            due("undo of six kinds to " + left, x.undo(), left);
        }
        CHECKS.same("the state after six kinds are taken back", Checks.view(x), before);
    }

    /** Promise 25. */
    private static void bestStart() {
        RosettePlate x = plateOf("E24" + A + "i100407" + "i100402" + "o160413" + "o160402");
        due("bestStart of hole 4 beside A", x.bestStart(1, 0), 1);
        due("bestStart of A beside an odd one", x.bestStart(0, 1), 0);
        due("bestStart of A beside an even one", x.bestStart(0, 2), 1);
        due("bestStart of B beside the start 13", x.bestStart(4, 3), 5);
        due("bestStart of B beside the start 2", x.bestStart(3, 4), 2);
        due("bestStart of two with nothing in common", x.bestStart(3, 0), 0);
        due("start after it", x.layer(3, 3), 13);
        CHECKS.due("bestStart(0, 0)", () -> x.bestStart(0, 0), ARGUMENT);
        CHECKS.due("undo after it", x::undo, STATE);
    }

    /** Promise 26. */
    private static void wheels() {
        RosettePlate x = new RosettePlate();
        wheelsDue(x, 0, 0, 0, 56, 5, 60);
        wheelsDue(x, 1, 20, 23, 56, 5, 60);
        x.see(0, 210);
        wheelsDue(x, 1, 1, 0, 2, 9, 10);
        wheelsDue(x, 1, 1, 1, 1, 10, 10);
        wheelsDue(x, 1, 0, 5, 1, 10, 10);
        wheelsDue(x, 0, 0, 0, 0, NONE, NONE);
        x.see(1, 210);
        wheelsDue(x, 1, 1, 0, 1, 10, 10);
        x.see(1, 209);
        wheelsDue(x, 1, 0, 0, 0, NONE, NONE);
        int[][] wrong = {{-1, 0, 0, 0}, {2, 0, 0, 0}, {0, -1, 0, 0}, {0, 21, 0, 0}, {0, 0, -1, 0}, {0, 0, 24, 0},
            {0, 0, 0, -1}, {0, 0, 0, 3}};
        for (int[] v : wrong) {
            CHECKS.due("wheels with " + v[0] + " " + v[1] + " " + v[2] + " " + v[3],
                () -> x.wheels(v[0], v[1], v[2], v[3]), ARGUMENT);
        }
        due("undo after it", x.undo(), 2);
    }

    private static void wheelsDue(RosettePlate x, int side, int hole, int start, int number, int least, int most) {
        String what = "wheels of " + side + " " + hole + " " + start + " as ";
        due(what + 0, x.wheels(side, hole, start, 0), number);
        due(what + 1, x.wheels(side, hole, start, 1), least);
        due(what + 2, x.wheels(side, hole, start, 2), most);
    }

    /** Promise 27. */
    private static void wheelFor() {
        RosettePlate x = new RosettePlate();
        long[][] want = {{1, 24}, {2, 48}, {3, 36}, {5, 60}, {12, NONE}, {59, 59}, {60, NONE}};
        for (long[] w : want) {
            due("wheelFor(" + w[0] + ")", x.wheelFor((int) w[0]), w[1]);
        }
        due("wheelFor(60) in 89", plateOf("E89").wheelFor(60), 60);
        due("wheelFor(1) in 89", plateOf("E89").wheelFor(1), NONE);
        due("wheelFor(4) in 89", plateOf("E89").wheelFor(4), NONE);
        due("wheelFor(5) in 13, the smallest wheel", plateOf("E13").wheelFor(5), 5);
        due("wheelFor(1) in 96", plateOf("E96").wheelFor(1), 48);
        due("wheelFor(1) in 60", plateOf("E60").wheelFor(1), 60);
        CHECKS.due("wheelFor(0)", () -> x.wheelFor(0), ARGUMENT);
        CHECKS.due("wheelFor(61)", () -> x.wheelFor(61), ARGUMENT);
    }

    /** Runs the script of these groups and looks whether the state is as it was. */
    private static void script(RosettePlate x, int want, String... groups) {
        String digits = String.join("", groups);
        String before = Checks.view(x);
        due("the script " + digits, x.runScript(groups.length, Long.parseLong(digits)), want);
        CHECKS.same("the state after the script " + digits, Checks.view(x), before);
    }

    private static void eachFails(RosettePlate x, String... groups) {
        for (String group : groups) {
            script(x, 0, group);
            script(x, 1, "80000", group, "00000");
        }
    }

    private static void eachSucceeds(RosettePlate x, String... groups) {
        for (String group : groups) {
            script(x, NONE, group);
            script(x, 2, "80000", group, "00000");
        }
    }

    /** Promise 28. A has 5 turns and 12 lobes, B 2 turns and 3 lobes. */
    private static void scriptsThatChange() {
        RosettePlate x = plateOf("E24" + A + B + "s00198");
        eachSucceeds(x, "10005", "10060", "10100", "10101", "10200", "10220", "10300", "10323", "11016");
        eachFails(x, "10004", "10061", "10102", "10221", "10324", "10400", "12016", "19016");
        script(x, NONE, "10016", "60002", "90003");
        script(x, 1, "10016", "60005");
        script(x, NONE, "11010", "61005", "60005");
        script(x, 1, "10207", "81000");
        eachSucceeds(x, "20000", "21000");
        eachFails(x, "22000", "20001", "20010", "20100");
        script(x, NONE, "20000", "60002");
        script(x, 1, "21000", "60002");
        script(x, 2, "20000", "20000", "20000");
        eachSucceeds(x, "30012", "30096", "30024");
        eachFails(x, "30011", "30097", "30000", "31012", "30112");
        script(x, NONE, "30012", "90006");
        script(x, 1, "30012", "10312");
        script(x, NONE, "30096", "10395");
        script(x, NONE, "30012", "30024", "90012");
        eachSucceeds(x, "40050", "40600", "41169", "41601");
        eachFails(x, "42160", "49160", "40040", "40610", "40000");
        script(x, NONE, "40169", "62002", "92003");
        script(x, NONE, "41059", "62005", "92024");
        script(x, NONE, "40108", "70200", "82000");
        script(x, 1, "41108", "70200");
        script(x, 1, "40107", "70200");
        RosettePlate five = plateOf("E24" + A + A + A + A + A);
        script(five, 1, "40108", "40108");
        script(five, 2, "20000", "40108", "25001");
        due("layers after scripts", x.about(1), 2);
        CHECKS.due("undo after scripts", x::undo, STATE);
    }

    /** Promise 28. */
    private static void scriptsThatAsk() {
        RosettePlate x = plateOf("E24" + A + "i100802" + "i100801" + "s00198");
        eachSucceeds(x, "50172", "50171", "50100", "50200", "50000", "51072");
        eachFails(x, "50173", "50201", "50099", "50300", "53000", "59900");
        eachSucceeds(x, "60005", "61005");
        eachFails(x, "60004", "60006", "60105", "63005", "60050");
        eachSucceeds(x, "70100", "70201", "72001", "70000");
        eachFails(x, "70101", "70200", "70202", "70300", "73000");
        eachSucceeds(x, "80000", "81000", "82000");
        eachFails(x, "83000", "89000", "82001", "82010", "82100");
        eachSucceeds(x, "90012", "92012");
        eachFails(x, "90011", "90013", "90112", "93012");
        script(plateOf("E24" + A + B), 0, "70191");
    }

    /** Promise 28. */
    private static void scriptsThatFail() {
        RosettePlate x = plateOf("E24" + A);
        eachFails(x, "00000", "00001", "01000", "99999");
        script(x, 0, "00000", "60005");
        script(x, 1, "60005", "00000");
        script(x, 2, "80000", "60005", "60004");
        script(x, NONE, "80000", "60005", "90012");
        due("runScript(3, 0)", x.runScript(3, 0), 0);
        due("runScript(3, 999999999999999)", x.runScript(3, 999999999999999L), 0);
        CHECKS.due("runScript(0, 0)", () -> x.runScript(0, 0), ARGUMENT);
        CHECKS.due("runScript(4, 0)", () -> x.runScript(4, 0), ARGUMENT);
        CHECKS.due("runScript(-1, 0)", () -> x.runScript(-1, 0), ARGUMENT);
        CHECKS.due("runScript(1, -1)", () -> x.runScript(1, -1), ARGUMENT);
        CHECKS.due("runScript(1, 100000)", () -> x.runScript(1, 100000), ARGUMENT);
        CHECKS.due("runScript(2, 10 ^ 10)", () -> x.runScript(2, 10000000000L), ARGUMENT);
        CHECKS.due("runScript(3, 10 ^ 15)", () -> x.runScript(3, 1000000000000000L), ARGUMENT);
        CHECKS.due("runScript(3, the greatest long)", () -> x.runScript(3, Long.MAX_VALUE), ARGUMENT);
        CHECKS.due("runScript(3, the least long)", () -> x.runScript(3, Long.MIN_VALUE), ARGUMENT);
    }

    /** Promise 29. */
    private static void simulate() {
        RosettePlate x = plateOf("E24" + A);
        due("simulate(0, 1)", x.simulate(0, 1), 1172);
        due("simulate(42, 2)", x.simulate(42, 2), 2237);
        due("simulate(0, 200)", x.simulate(0, 200), 191268);
        due("simulate(the greatest long, 7)", x.simulate(Long.MAX_VALUE, 7), 7240);
        due("simulate(the least long, 50)", x.simulate(Long.MIN_VALUE, 50), 50263);
        due("simulate(0, 200) again", x.simulate(0, 200), 191268);
        due("simulate(0, 200) in 96", plateOf("E96").simulate(0, 200), 199268);
        due("simulate(-1, 200) in 12", plateOf("E12" + B).simulate(-1, 200), 188269);
        due("layers after it", x.about(3), 72);
        CHECKS.due("undo after it", x::undo, STATE);
        CHECKS.due("simulate(0, 0)", () -> x.simulate(0, 0), ARGUMENT);
        CHECKS.due("simulate(0, 201)", () -> x.simulate(0, 201), ARGUMENT);
    }

    /** Promise 30. */
    private static void save() {
        RosettePlate x = plateOf("E24" + A + B + "s00198");
        x.setRing(40);
        due("save(0)", x.save(0), 2);
        x.remove(1);
        due("save(1)", x.save(1), 1);
        due("undo after save", x.undo(), 1);
        x.setRing(12);
        x.change(0, 0, 60);
        x.forget();
        due("restore(1)", x.restore(1), 1);
        due("ring of the slot 1", x.about(0), 40);
        due("restore(0)", x.restore(0), 2);
        due("wheel of the slot 0", x.layer(0, 0), 10);
        due("sightings of the slot 0", x.about(2), 1);
        x.setRing(13);
        due("save(0) again", x.save(0), 2);
        x.setRing(14);
        x.restore(0);
        due("ring of the slot 0", x.about(0), 13);
        CHECKS.due("save(-1)", () -> x.save(-1), IndexOutOfBoundsException.class);
        CHECKS.due("save(2)", () -> x.save(2), IndexOutOfBoundsException.class);
    }

    /** Promise 31. */
    private static void restore() {
        RosettePlate x = plateOf("E24" + A + B);
        CHECKS.due("restore of nothing", () -> x.restore(0), STATE);
        CHECKS.due("restore(-1)", () -> x.restore(-1), IndexOutOfBoundsException.class);
        CHECKS.due("restore(2)", () -> x.restore(2), IndexOutOfBoundsException.class);
        x.save(1);
        CHECKS.due("restore of the other slot", () -> x.restore(0), STATE);
        Checks.type(x, "E9");
        x.remove(0);
        x.see(0, 0);
        due("restore(1)", x.restore(1), 2);
        due("sightings then", x.about(2), 0);
        CHECKS.due("undo after restore", x::undo, STATE);
        x.remove(0);
        x.change(0, 0, 60);
        due("restore(1) again", x.restore(1), 2);
        due("the slot keeps its wheel", x.layer(0, 0), 10);
        due("the slot keeps its other wheel", x.layer(1, 0), 16);
        x.setRing(30);
        due("undo of what came then", x.undo(), 0);
        due("text after restore", x.clearText(), 2);
        Checks.type(x, "E30");
        x.load();
        CHECKS.due("restore after load", () -> x.restore(1), STATE);
    }
}
