import java.util.function.ToLongFunction;

/** What the tests of boundary cases share; each of them is a program of its own. */
class Edges {
    static final int NONE = -9;
    static final Checks CHECKS = new Checks();

    static void due(String what, long got, long want) {
        CHECKS.due(what, got, want);
    }

    static RosettePlate plateOf(String text) {
        return Checks.plateOf(text);
    }

    /** A call on Plates.rich that throws for want of a layer, a sighting or a slot, and changes nothing. */
    static void noIndex(String what, ToLongFunction<RosettePlate> call) {
        CHECKS.refused(what, Checks.INDEX, Plates::rich, call);
    }

    /** A call on Plates.rich that throws for an argument out of its range, and changes nothing. */
    static void noArgument(String what, ToLongFunction<RosettePlate> call) {
        CHECKS.refused(what, Checks.ARGUMENT, Plates::rich, call);
    }
}
