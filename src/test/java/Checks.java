import java.util.ArrayList;
import java.util.List;

/** Counts checks, prints those that are wrong, and ends a test program. */
final class Checks {
    interface Call {
        long run();
    }

    private int passed;
    private int failed;

    void due(String what, long got, long want) {
        note(got == want, what + " answered " + got + ", due is " + want);
    }

    void same(String what, Object got, Object want) {
        note(want.equals(got), what + " is " + got + ", due is " + want);
    }

    void holds(String what, boolean held) {
        note(held, what + " does not hold");
    }

    void due(String what, Call call, Class<? extends RuntimeException> want) {
        String got = outcome(call);
        note(got.equals(want.getSimpleName()), what + " ended with " + got + ", due is " + want.getSimpleName());
    }

    /** The answer of a call, or the name of what it throws. */
    static String outcome(Call call) {
        try {
            return Long.toString(call.run());
        } catch (RuntimeException e) {
            return e.getClass().getSimpleName();
        }
    }

    private void note(boolean right, String otherwise) {
        if (right) {
            passed++;
            return;
        }
        failed++;
        if (failed <= 40) {
            System.out.println("  wrong: " + otherwise);
        }
    }

    /** Prints the closing line and ends with 1 if a check was wrong or there was none. */
    void close() {
        System.out.println(passed + " passed, " + failed + " failed");
        if (failed > 0 || passed == 0) {
            System.exit(1);
        }
    }

    /** Appends each character of the text. */
    static void type(RosettePlate x, String text) {
        for (int i = 0; i < text.length(); i++) {
            x.append(text.charAt(i));
        }
    }

    /** A new object that has loaded this text; the text buffer is empty again. */
    static RosettePlate plateOf(String text) {
        RosettePlate x = new RosettePlate();
        type(x, text);
        x.load();
        x.clearText();
        return x;
    }

    /** All that can be seen of the state without a change. */
    static String view(RosettePlate x) {
        List<String> seen = new ArrayList<>();
        seen.add("text " + x.errorPosition());
        for (int what = 0; what <= 6; what++) {
            seen.add("about " + x.about(what));
        }
        for (int l = 0; l < x.about(1); l++) {
            for (int what = 0; what <= 9; what++) {
                seen.add("layer " + x.layer(l, what));
            }
        }
        for (int i = 0; i < x.about(2); i++) {
            seen.add("sighting " + x.sighting(i, 0) + " " + x.sighting(i, 1) + " " + x.sighting(i, 2));
        }
        return seen.toString();
    }

    /** All that can be seen of an object: the state, the remembered ones, the save slots, the text. It is used up. */
    static String drain(RosettePlate x) {
        List<String> seen = new ArrayList<>();
        seen.add(view(x));
        for (int i = 0; i < 15; i++) {
            seen.add("undo " + outcome(x::undo) + " " + x.about(0) + " " + x.about(1) + " " + x.about(2));
        }
        for (int slot = 0; slot < 2; slot++) {
            int kept = slot;
            seen.add("restore " + outcome(() -> x.restore(kept)) + " " + view(x));
        }
        int length = x.clearText();
        seen.add("text " + length);
        return seen.toString();
    }
}
