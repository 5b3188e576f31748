import java.util.function.Supplier;
import java.util.function.ToLongFunction;

/**
 * Terms, exceptions, "A call that throws an exception changes nothing.": each exception that the document names, by
 * arguments beside their range and far from it, and that afterwards neither the state, nor what is remembered or
 * saved, nor the text is another one.
 */
public final class WrongCallsTest {
    private static final Class<IndexOutOfBoundsException> INDEX = Checks.INDEX;
    private static final Class<IllegalArgumentException> ARGUMENT = Checks.ARGUMENT;
    private static final Class<IllegalStateException> STATE = Checks.STATE;
    private static final int[] NO_LAYERS = {-1, 3, 6, Integer.MIN_VALUE, Integer.MAX_VALUE};

    private static final Checks CHECKS = new Checks();

    public static void main(String[] args) {
        CHECKS.of("Terms, exceptions", "A call that throws an exception changes nothing.");
        text();
        layers();
        whatThereIs();
        actions();
        whatWouldBe();
        saveSlots();
        CHECKS.close();
    }

    private static void wrong(String what, Class<? extends RuntimeException> want, ToLongFunction<RosettePlate> call) {
        CHECKS.refused(what, want, Plates::rich, call);
    }

    private static void wrong(String what, Supplier<RosettePlate> maker, Class<? extends RuntimeException> want,
            ToLongFunction<RosettePlate> call) {
        CHECKS.refused(what, want, maker, call);
    }

    private static void text() {
        wrong("append(-1)", ARGUMENT, x -> x.append(-1));
        wrong("append(256)", ARGUMENT, x -> x.append(256));
        wrong("append to a full text", Plates::fullText, STATE, x -> x.append('E'));
        wrong("append(256) to a full text", Plates::fullText, ARGUMENT, x -> x.append(256));
        wrong("append(-1) to a full text", Plates::fullText, ARGUMENT, x -> x.append(-1));
        wrong("load of half a text", STATE, RosettePlate::load);
        wrong("load of a full text", Plates::fullText, STATE, RosettePlate::load);
        wrong("load of no text", RosettePlate::new, STATE, RosettePlate::load);
    }

    private static void layers() {
        for (int l : NO_LAYERS) {
            wrong("layer of no layer " + l, INDEX, x -> x.layer(l, 0));
            wrong("layer of no layer and nothing " + l, INDEX, x -> x.layer(l, 10));
            wrong("pen of no layer " + l, INDEX, x -> x.pen(l, 0));
            wrong("pen of no layer at -1 " + l, INDEX, x -> x.pen(l, -1));
            wrong("comes of no layer " + l, INDEX, x -> x.comes(l, 0, 0));
            wrong("comes of no layer to no point " + l, INDEX, x -> x.comes(l, 30, 301));
            wrong("common of no layer " + l, INDEX, x -> x.common(l, 0));
            wrong("common with no layer " + l, INDEX, x -> x.common(0, l));
            wrong("meet of no layer " + l, INDEX, x -> x.meet(l, 0));
            wrong("meet with no layer " + l, INDEX, x -> x.meet(0, l));
            wrong("turned of no layer " + l, INDEX, x -> x.turned(l, 0));
            wrong("turned to no layer " + l, INDEX, x -> x.turned(0, l));
            wrong("change of no layer " + l, INDEX, x -> x.change(l, 0, 5));
            wrong("change of no layer to nothing " + l, INDEX, x -> x.change(l, 4, 99));
            wrong("remove of no layer " + l, INDEX, x -> x.remove(l));
            wrong("bestStart of no layer " + l, INDEX, x -> x.bestStart(l, 0));
            wrong("bestStart beside no layer " + l, INDEX, x -> x.bestStart(0, l));
            wrong("bestStart of no layer beside itself " + l, INDEX, x -> x.bestStart(l, l));
        }
    }

    private static void whatThereIs() {
        for (int what : new int[] {-1, 7, Integer.MIN_VALUE, Integer.MAX_VALUE}) {
            wrong("about(" + what + ")", ARGUMENT, x -> x.about(what));
        }
        for (int what : new int[] {-1, 10, Integer.MIN_VALUE, Integer.MAX_VALUE}) {
            wrong("layer(0, " + what + ")", ARGUMENT, x -> x.layer(0, what));
        }
        for (long t : new long[] {-1, Integer.MIN_VALUE, Long.MIN_VALUE}) {
            wrong("pen(0, " + t + ")", ARGUMENT, x -> x.pen(0, t));
        }
        for (int angle : new int[] {-1, 30, Integer.MIN_VALUE, Integer.MAX_VALUE}) {
            wrong("comes(0, " + angle + ", 0)", ARGUMENT, x -> x.comes(0, angle, 0));
            wrong("see(" + angle + ", 0)", ARGUMENT, x -> x.see(angle, 0));
        }
        for (int radius : new int[] {-1, 301, Integer.MIN_VALUE, Integer.MAX_VALUE}) {
            wrong("comes(0, 0, " + radius + ")", ARGUMENT, x -> x.comes(0, 0, radius));
            wrong("see(0, " + radius + ")", ARGUMENT, x -> x.see(0, radius));
            wrong("at(" + radius + ")", ARGUMENT, x -> x.at(radius));
        }
        wrong("order(-1)", ARGUMENT, x -> x.order(-1));
        wrong("order(the least int)", ARGUMENT, x -> x.order(Integer.MIN_VALUE));
        for (int i : NO_LAYERS) {
            wrong("sighting(" + i + ", 0)", INDEX, x -> x.sighting(i, 0));
            wrong("sighting(" + i + ", 3)", INDEX, x -> x.sighting(i, 3));
        }
        wrong("sighting(0, -1)", ARGUMENT, x -> x.sighting(0, -1));
        wrong("sighting(0, 3)", ARGUMENT, x -> x.sighting(0, 3));
    }

    private static void actions() {
        for (int teeth : new int[] {11, 97, 0, -1, Integer.MIN_VALUE, Integer.MAX_VALUE}) {
            wrong("setRing(" + teeth + ")", ARGUMENT, x -> x.setRing(teeth));
        }
        int[][] layers = {{4, 0, 0, 0}, {61, 0, 0, 0}, {5, -1, 0, 0}, {5, 2, 0, 0}, {5, 0, -1, 0}, {5, 0, 21, 0},
            {5, 0, 0, -1}, {5, 0, 0, 30}};
        for (int[] v : layers) {
            wrong("addLayer", ARGUMENT, x -> x.addLayer(v[0], v[1], v[2], v[3]));
            wrong("addLayer to 6", Plates::sixLayers, ARGUMENT, x -> x.addLayer(v[0], v[1], v[2], v[3]));
        }
        wrong("addLayer of a seventh one", Plates::sixLayers, STATE, x -> x.addLayer(5, 0, 0, 0));
        int[][] changes = {{-1, 5}, {4, 5}, {0, 4}, {0, 61}, {1, -1}, {1, 2}, {2, -1}, {2, 21}, {3, -1}, {3, 30}};
        for (int[] c : changes) {
            wrong("change(2, " + c[0] + ", " + c[1] + ")", ARGUMENT, x -> x.change(2, c[0], c[1]));
        }
        wrong("undo of nothing", Plates::nothingRemembered, STATE, RosettePlate::undo);
        wrong("undo of a new object", RosettePlate::new, STATE, RosettePlate::undo);
    }

    private static void whatWouldBe() {
        wrong("bestStart(2, 2)", ARGUMENT, x -> x.bestStart(2, 2));
        int[][] tries = {{-1, 0, 0, 0}, {2, 0, 0, 0}, {0, -1, 0, 0}, {0, 21, 0, 0}, {0, 0, -1, 0}, {0, 0, 30, 0},
            {0, 0, 0, -1}, {0, 0, 0, 3}};
        for (int[] v : tries) {
            wrong("wheels", ARGUMENT, x -> x.wheels(v[0], v[1], v[2], v[3]));
        }
        for (int turns : new int[] {0, -1, 61, Integer.MIN_VALUE, Integer.MAX_VALUE}) {
            wrong("wheelFor(" + turns + ")", ARGUMENT, x -> x.wheelFor(turns));
        }
        for (int n : new int[] {0, -1, 4, Integer.MIN_VALUE, Integer.MAX_VALUE}) {
            wrong("runScript(" + n + ", 20000)", ARGUMENT, x -> x.runScript(n, 20000));
        }
        wrong("runScript(1, -1)", ARGUMENT, x -> x.runScript(1, -1));
        wrong("runScript(3, the least long)", ARGUMENT, x -> x.runScript(3, Long.MIN_VALUE));
        wrong("runScript(1, 100000)", ARGUMENT, x -> x.runScript(1, 100000));
        wrong("runScript(2, 10 ^ 10)", ARGUMENT, x -> x.runScript(2, 10000000000L));
        wrong("runScript(3, 10 ^ 15)", ARGUMENT, x -> x.runScript(3, 1000000000000000L));
        for (int m : new int[] {0, -1, 201, Integer.MIN_VALUE, Integer.MAX_VALUE}) {
            wrong("simulate(1, " + m + ")", ARGUMENT, x -> x.simulate(1, m));
        }
    }

    private static void saveSlots() {
        for (int slot : new int[] {-1, 2, Integer.MIN_VALUE, Integer.MAX_VALUE}) {
            wrong("save(" + slot + ")", INDEX, x -> x.save(slot));
            wrong("restore(" + slot + ")", INDEX, x -> x.restore(slot));
            wrong("restore(" + slot + ") of a new object", RosettePlate::new, INDEX, x -> x.restore(slot));
        }
        wrong("restore(1)", STATE, x -> x.restore(1));
    }
}
