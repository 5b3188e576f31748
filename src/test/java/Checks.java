import java.util.ArrayList;
import java.util.List;
import java.util.function.Supplier;
import java.util.function.ToLongFunction;

/** Counts checks, prints those that are wrong, and ends a test program. */
final class Checks {
    interface Call {
        long run();
    }

    static final Class<IndexOutOfBoundsException> INDEX = IndexOutOfBoundsException.class;
    static final Class<IllegalArgumentException> ARGUMENT = IllegalArgumentException.class;
    static final Class<IllegalStateException> STATE = IllegalStateException.class;

    private int passed;
    private int failed;
    private String sentence = "";

    /** Tells of which section of the document, and of which sentence there, the checks from here on are. */
    void of(String section, String words) {
        sentence = section + ", \"" + words + "\": ";
    }

    void due(String what, long got, long want) {
        note(got == want, what + " answered " + got + ", due is " + want);
    }

    void same(String what, Object got, Object want) {
        note(want.equals(got), what + " is " + got + ", due is " + want);
    }

    void holds(String what, boolean held) {
        note(held, what + " does not hold");
    }

    void due(String what, Call call, Class<? extends RuntimeException> want) {
        String got = outcome(call);
        note(got.equals(want.getSimpleName()), what + " ended with " + got + ", due is " + want.getSimpleName());
    }

    /** A call that throws what is due, and that leaves an object that cannot be told from one without this call. */
    void refused(String what, Class<? extends RuntimeException> want, Supplier<RosettePlate> maker,
            ToLongFunction<RosettePlate> call) {
        RosettePlate x = maker.get();
        due(what, () -> call.applyAsLong(x), want);
        same("the object after " + what, drain(x), drain(maker.get()));
    }

    /** The answer of a call, or the name of what it throws. */
    static String outcome(Call call) {
        try {
            return Long.toString(call.run());
        } catch (RuntimeException e) {
            return e.getClass().getSimpleName();
        }
    }

    private void note(boolean right, String otherwise) {
        if (right) {
            passed++;
            return;
        }
        failed++;
        if (failed <= 40) {
            System.out.println("  wrong: " + sentence + otherwise);
        }
    }

    /** Prints the closing line and ends with 1 if a check was wrong or there was none. */
    void close() {
        System.out.println(passed + " passed, " + failed + " failed");
        if (failed > 0 || passed == 0) {
            System.exit(1);
        }
    }

    /** Appends each character of the text. */
    static void type(RosettePlate x, String text) {
        for (int i = 0; i < text.length(); i++) {
            x.append(text.charAt(i));
        }
    }

    /** A new object that has loaded this text; the text buffer is empty again. */
    static RosettePlate plateOf(String text) {
        RosettePlate x = new RosettePlate();
        type(x, text);
        x.load();
        x.clearText();
        return x;
    }

    /** All that can be seen of the state without a change. */
    static String view(RosettePlate x) {
        List<String> seen = new ArrayList<>();
        seen.add("text " + x.errorPosition());
        for (int what = 0; what <= 6; what++) {
            seen.add("about " + x.about(what));
        }
        for (int l = 0; l < x.about(1); l++) {
            for (int what = 0; what <= 9; what++) {
                seen.add("layer " + x.layer(l, what));
            }
        }
        for (int i = 0; i < x.about(2); i++) {
            seen.add("sighting " + x.sighting(i, 0) + " " + x.sighting(i, 1) + " " + x.sighting(i, 2));
        }
        return seen.toString();
    }

    /** All that can be seen of an object: the state, the remembered ones, the save slots, the text. It is used up. */
    static String drain(RosettePlate x) {
        List<String> seen = new ArrayList<>();
        seen.add(view(x));
        for (int i = 0; i < 15; i++) {
            seen.add("undo " + outcome(x::undo) + " " + x.about(0) + " " + x.about(1) + " " + x.about(2));
        }
        for (int slot = 0; slot < 2; slot++) {
            int kept = slot;
            seen.add("restore " + outcome(() -> x.restore(kept)) + " " + view(x));
        }
        // The characters can be seen only by what becomes of them: half a text of Plates.rich ends with these.
        for (char c : "00800".toCharArray()) {
            seen.add("append " + outcome(() -> x.append(c)) + " load " + outcome(x::load));
        }
        seen.add(view(x));
        seen.add("text " + x.clearText());
        return seen.toString();
    }
}
