/**
 * "Terms", text, and the promises 2 to 5: a test for each sentence that names a boundary case. The answers are worked
 * out from the document.
 */
public final class EdgesOfTextTest extends Edges {
    private static final String SIX = "i050000o602011".repeat(3);
    private static final String EIGHT = "s00000s11300".repeat(4);
    private static final String THREE_PARTS = "E24i100823o602000s23300";

    public static void main(String[] args) {
        atMostAHundredCharacters();
        ringThenAnyParts();
        ringDigits();
        layerDigits();
        startDigits();
        atMostSixLayers();
        sightingDigits();
        atMostEightSightings();
        noBlanks();
        fromLeftToRight();
        charactersThatAreNotAllowed();
        digitsThatBeginNoNumber();
        endsTooSoon();
        appendCharacters();
        appendAnswersTheLength();
        appendOutOfRange();
        appendToAFullText();
        clearTextEmpties();
        clearTextAnswersTheLength();
        errorPositionOrNone();
        loadReplacesEverything();
        loadForgetsAndEmpties();
        loadKeepsTheText();
        loadAnswersTheLayers();
        loadOfNoPlate();
        CHECKS.close();
    }

    private static void error(String text, int want) {
        RosettePlate x = new RosettePlate();
        Checks.type(x, text);
        due("errorPosition of " + text, x.errorPosition(), want);
        CHECKS.holds("load of " + text + " throws if it has an error", want == NONE
            || Checks.outcome(x::load).equals("IllegalStateException"));
    }

    private static String two(int number) {
        return String.format("%02d", number);
    }

    // ---- Terms, text

    private static void atMostAHundredCharacters() {
        CHECKS.of("Terms, text", "The object has a text buffer of at most 100 characters.");
        RosettePlate x = new RosettePlate();
        for (int length = 1; length <= 100; length++) {
            due("append to " + length, x.append('E'), length);
        }
        CHECKS.due("append to 101", () -> x.append('E'), Checks.STATE);
        due("the length", x.clearText(), 100);
    }

    private static void ringThenAnyParts() {
        CHECKS.of("Terms, text", "A plate is the letter E, two digits for the teeth of the ring (12 to 96), and then any"
            + " number of parts, in any order");
        error("E24", NONE);
        error("E24i100800", NONE);
        error("E24s00000", NONE);
        error("E24s00000i100800s00000o100800s00000", NONE);
        error("E12" + SIX + EIGHT, NONE);
        error("E12" + EIGHT + SIX, NONE);
        error("E12" + "s00000i050000".repeat(6) + "s00000s00000", NONE);
        error("i100800E24", 0);
        error("24", 0);
        error("E24E24", 3);
        error("F24", 0);
        error("e24", 0);
    }

    private static void ringDigits() {
        CHECKS.of("Terms, text", "two digits for the teeth of the ring (12 to 96)");
        for (int ring = 0; ring < 100; ring++) {
            error("E" + two(ring), ring < 10 ? 1 : ring < 12 || ring > 96 ? 2 : NONE);
        }
        error("E120", 3);
        error("E960", 3);
    }

    private static void layerDigits() {
        CHECKS.of("Terms, text", "a layer (at most 6 of them), the letter i (inside) or o (around), two digits for the"
            + " teeth of its wheel (05 to 60), two for its hole (00 to 20)");
        for (int number = 0; number < 100; number++) {
            // No number of 05 to 60 begins with 7, 8 or 9, none of 00 to 20 with 3 or more.
            boolean isWheel = number >= 5 && number <= 60;
            error("E12i" + two(number) + "2011", isWheel ? NONE : number < 70 ? 5 : 4);
            error("E12o" + two(number) + "2011", isWheel ? NONE : number < 70 ? 5 : 4);
            error("E12i60" + two(number) + "11", number <= 20 ? NONE : number < 30 ? 7 : 6);
            error("E12o05" + two(number) + "00", number <= 20 ? NONE : number < 30 ? 7 : 6);
        }
        due("the side of i", plateOf("E12i050000").layer(0, 1), 0);
        due("the side of o", plateOf("E12o050000").layer(0, 1), 1);
        error("E12I050000", 3);
        error("E12O050000", 3);
        error("E120050000", 3);
    }

    private static void startDigits() {
        CHECKS.of("Terms, text", "and two for its start (00 to the teeth of the ring less 1)");
        for (int ring : new int[] {12, 19, 20, 21, 24, 89, 90, 91, 95, 96}) {
            for (int start = 0; start < 100; start++) {
                // A first digit is allowed as long as the start that it makes with a 0 is there.
                int want = start < ring ? NONE : start / 10 * 10 < ring ? 9 : 8;
                error("E" + ring + "i0500" + two(start), want);
                error("E" + ring + "o6020" + two(start), want);
                error("E" + ring + "s" + two(start) + "000", want == NONE ? NONE : want - 4);
            }
        }
    }

    private static void atMostSixLayers() {
        CHECKS.of("Terms, text", "a layer (at most 6 of them)");
        String six = "E12" + SIX;
        error(six, NONE);
        error(six + "i050000", 45);
        error(six + "o050000", 45);
        error(six + "i", 45);
        error(six + "s00000", NONE);
        error(six + "s00000i050000", 51);
        error("E12" + "i050000".repeat(5), NONE);
        error("E12" + "i050000".repeat(5) + "i", 39);
        error("E12" + EIGHT + SIX + "o050000", 93);
    }

    private static void sightingDigits() {
        CHECKS.of("Terms, text", "the letter s, two digits for its angle (00 to the teeth of the ring less 1) and three"
            + " for its radius (000 to 300).");
        for (int radius = 0; radius < 1000; radius++) {
            // No number up to 300 begins with 4 or more, with 31 or more, or with 301 or more.
            int want = radius <= 300 ? NONE : radius < 310 ? 8 : radius < 400 ? 7 : 6;
            error("E12s11" + String.format("%03d", radius), want);
        }
        error("E12s11300s", 10);
        error("E12s113000", 9);
        error("E12S11300", 3);
    }

    private static void atMostEightSightings() {
        CHECKS.of("Terms, text", "a sighting (at most 8 of them)");
        String eight = "E12" + EIGHT;
        error(eight, NONE);
        error(eight + "s00000", 51);
        error(eight + "s", 51);
        error(eight + "i050000", NONE);
        error(eight + "i050000s00000", 58);
        error("E12" + "s00000".repeat(7), NONE);
        error("E12" + "s00000".repeat(7) + "s", 46);
        error("E12" + SIX + EIGHT + "s00000", 93);
    }

    private static void noBlanks() {
        CHECKS.of("Terms, text", "There are no blanks.");
        for (int place = 0; place <= THREE_PARTS.length(); place++) {
            error(THREE_PARTS.substring(0, place) + " " + THREE_PARTS.substring(place), place);
        }
    }

    private static void fromLeftToRight() {
        CHECKS.of("Terms, text", "The text is read from left to right. The error position is the index of the first"
            + " character that these rules do not allow at its place");
        error("x99i99", 0);
        error("E99i99", 2);
        error("E12i99s99", 4);
        error("E12i60s99", 6);
        error("E12s00301i99", 8);
        error("E12i050012s99", 9);
        // The seventh layer comes ahead of the ninth sighting, and the other way round.
        error("E12" + SIX + EIGHT.substring(6) + "is00000s00000", 87);
        error("E12" + EIGHT + SIX.substring(7) + "si050000", 86);
    }

    /** Of all characters only the letters of the parts are allowed where another one may stand in this text. */
    private static void charactersThatAreNotAllowed() {
        CHECKS.of("Terms, text", "The error position is the index of the first character that these rules do not allow"
            + " at its place");
        for (int place = 0; place < THREE_PARTS.length(); place++) {
            for (char c = 0; c <= 255; c++) {
                boolean isDigit = c >= '0' && c <= '9';
                boolean startsAPart = (place == 3 || place == 10 || place == 17) && (c == 'i' || c == 'o' || c == 's');
                if (c != THREE_PARTS.charAt(place) && !startsAPart
                        && (!isDigit || !Character.isDigit(THREE_PARTS.charAt(place)))) {
                    error(THREE_PARTS.substring(0, place) + c + THREE_PARTS.substring(place + 1), place);
                }
            }
        }
        for (char c = 0; c <= 255; c++) {
            if (c != 'i' && c != 'o' && c != 's') {
                error(THREE_PARTS + c, 23);
            }
        }
    }

    private static void digitsThatBeginNoNumber() {
        CHECKS.of("Terms, text",
            "(a digit is not allowed if no number that is allowed begins with it and those before it)");
        String[] begun = {"E", "E1", "E9", "E12i", "E12i0", "E12i6", "E12i60", "E12i602", "E12i600", "E12i6020",
            "E12i60201", "E12i60200", "E12s", "E12s1", "E12s0", "E12s11", "E12s113", "E12s1130", "E12s112", "E12s1129"};
        // The digits that are allowed next, from the least to the greatest.
        String[] allowed = {"19", "29", "06", "06", "59", "00", "02", "00", "09", "01", "01", "09", "01", "01", "09",
            "03", "00", "00", "09", "09"};
        for (int i = 0; i < begun.length; i++) {
            for (char digit = '0'; digit <= '9'; digit++) {
                boolean isAllowed = digit >= allowed[i].charAt(0) && digit <= allowed[i].charAt(1);
                String longer = begun[i] + digit + "x";
                error(longer, isAllowed ? longer.length() - 1 : begun[i].length());
            }
        }
    }

    private static void endsTooSoon() {
        CHECKS.of("Terms, text", "if the text ends too soon, it is the length of the text.");
        for (int length = 0; length < THREE_PARTS.length(); length++) {
            boolean isPlate = length == 3 || length == 10 || length == 17;
            error(THREE_PARTS.substring(0, length), isPlate ? NONE : length);
        }
        String most = "E12" + SIX + EIGHT;
        for (int length = 88; length < 93; length++) {
            error(most.substring(0, length), length);
        }
    }

    // ---- Promise 2: append

    private static void appendCharacters() {
        CHECKS.of("Promise 2", "`c`: character code, 0 to 255");
        RosettePlate x = new RosettePlate();
        due("append(0)", x.append(0), 1);
        due("append(255)", x.append(255), 2);
        due("the error of 0", x.errorPosition(), 0);
        x.clearText();
        Checks.type(x, "E24");
        due("append(255) to a plate", x.append(255), 4);
        due("the error of 255", x.errorPosition(), 3);
    }

    private static void appendAnswersTheLength() {
        CHECKS.of("Promise 2", "Returns the new length of the text.");
        RosettePlate x = new RosettePlate();
        due("append to no text", x.append('E'), 1);
        due("append to one character", x.append('2'), 2);
        x.clearText();
        due("append to a text that was cleared", x.append('E'), 1);
        RosettePlate most = new RosettePlate();
        Checks.type(most, "E".repeat(99));
        due("append to 99 characters", most.append('E'), 100);
    }

    /** 65536 + 69 and 69 - 65536 would be an E as characters of 16 bits, 256 + 69 one of 8 bits. */
    private static void appendOutOfRange() {
        CHECKS.of("Promise 2", "Throws `IllegalArgumentException` if c is out of range");
        int[] wrong = {-1, 256, 256 + 69, 65536 + 69, 69 - 65536, Integer.MIN_VALUE, Integer.MAX_VALUE};
        for (int c : wrong) {
            CHECKS.refused("append(" + c + ")", Checks.ARGUMENT, Plates::rich, x -> x.append(c));
            CHECKS.refused("append(" + c + ") to no text", Checks.ARGUMENT, RosettePlate::new, x -> x.append(c));
            CHECKS.refused("append(" + c + ") to a full one", Checks.ARGUMENT, Plates::fullText, x -> x.append(c));
        }
    }

    private static void appendToAFullText() {
        CHECKS.of("Promise 2", "Throws `IllegalStateException` if the text already has 100 characters");
        CHECKS.refused("append('E')", Checks.STATE, Plates::fullText, x -> x.append('E'));
        CHECKS.refused("append(0)", Checks.STATE, Plates::fullText, x -> x.append(0));
        CHECKS.refused("append(255)", Checks.STATE, Plates::fullText, x -> x.append(255));
        RosettePlate x = new RosettePlate();
        String full = "E12" + SIX + EIGHT + "xxxxxxx";
        Checks.type(x, full);
        CHECKS.due("append to " + full, () -> x.append('E'), Checks.STATE);
        due("the error is still ahead of it", x.errorPosition(), 93);
    }

    // ---- Promise 3: clearText

    private static void clearTextEmpties() {
        CHECKS.of("Promise 3", "Empties the text buffer.");
        RosettePlate x = new RosettePlate();
        Checks.type(x, "E24i100800");
        x.clearText();
        due("error of no text", x.errorPosition(), 0);
        x.append('E');
        due("error of a text behind which the old one stood", x.errorPosition(), 1);
        Checks.type(x, "12");
        due("error of a plate behind which the old one stood", x.errorPosition(), NONE);
        due("load of it", x.load(), 0);
        x.clearText();
        Checks.type(x, "E".repeat(100));
        x.clearText();
        Checks.type(x, "E".repeat(99));
        due("a full text again", x.append('E'), 100);
    }

    private static void clearTextAnswersTheLength() {
        CHECKS.of("Promise 3", "Returns the previous length of the text.");
        RosettePlate x = new RosettePlate();
        due("clearText of no text", x.clearText(), 0);
        x.append(0);
        due("clearText of one character", x.clearText(), 1);
        due("clearText again", x.clearText(), 0);
        Checks.type(x, "E".repeat(100));
        due("clearText of a full text", x.clearText(), 100);
    }

    // ---- Promise 4: errorPosition

    private static void errorPositionOrNone() {
        CHECKS.of("Promise 4", "Returns the error position of the text; NONE if it is a plate.");
        error("", 0);
        error("E", 1);
        error("E12", NONE);
        error("E12" + SIX + EIGHT, NONE);
        error("E12" + SIX + EIGHT + "x".repeat(7), 93);
        error("x".repeat(100), 0);
    }

    // ---- Promise 5: load

    private static void loadReplacesEverything() {
        CHECKS.of("Promise 5", "Replaces everything by the plate of the text.");
        RosettePlate x = Plates.sixLayers();
        x.clearText();
        Checks.type(x, "E12");
        due("load of a bare ring", x.load(), 0);
        due("the ring", x.about(0), 12);
        due("the layers", x.about(1), 0);
        due("the sightings", x.about(2), 0);
        x.clearText();
        Checks.type(x, "E96" + "i052095".repeat(6) + "s95300s00000".repeat(4));
        due("load of all that has room", x.load(), 6);
        due("the ring", x.about(0), 96);
        due("the sightings", x.about(2), 8);
        for (int l = 0; l < 6; l++) {
            due("the start of " + l, x.layer(l, 3), 95);
        }
        for (int i = 0; i < 8; i++) {
            due("the angle of " + i, x.sighting(i, 0), i % 2 == 0 ? 95 : 0);
            due("the radius of " + i, x.sighting(i, 1), i % 2 == 0 ? 300 : 0);
        }
        CHECKS.due("a seventh layer", () -> x.addLayer(5, 0, 0, 0), Checks.STATE);
    }

    private static void loadForgetsAndEmpties() {
        CHECKS.of("Promise 5", "Forgets all remembered states and empties both save slots.");
        RosettePlate x = Plates.fourteenRemembered();
        x.save(0);
        x.save(1);
        x.clearText();
        Checks.type(x, "E30");
        x.load();
        CHECKS.due("undo", x::undo, Checks.STATE);
        CHECKS.due("restore(0)", () -> x.restore(0), Checks.STATE);
        CHECKS.due("restore(1)", () -> x.restore(1), Checks.STATE);
        x.save(1);
        CHECKS.due("restore(0) when the slot 1 is filled", () -> x.restore(0), Checks.STATE);
        for (int i = 0; i < 14; i++) {
            x.setRing(40 + i);
        }
        due("there is room for fourteen states again", x.undo(), 13);
    }

    private static void loadKeepsTheText() {
        CHECKS.of("Promise 5", "Keeps the text.");
        RosettePlate x = new RosettePlate();
        Checks.type(x, "E30i100800");
        due("load", x.load(), 1);
        x.setRing(12);
        due("the same text again", x.load(), 1);
        due("the ring then", x.about(0), 30);
        due("append to it", x.append('s'), 11);
        due("the error of it", x.errorPosition(), 11);
        due("the length", x.clearText(), 11);
        due("the ring is still there", x.about(0), 30);
    }

    private static void loadAnswersTheLayers() {
        CHECKS.of("Promise 5", "Returns the number of layers.");
        for (int layers = 0; layers <= 6; layers++) {
            RosettePlate x = new RosettePlate();
            Checks.type(x, "E30s00000" + "i100829".repeat(layers));
            due("load of " + layers, x.load(), layers);
        }
    }

    private static void loadOfNoPlate() {
        CHECKS.of("Promise 5", "Throws `IllegalStateException` if the text is not a plate");
        CHECKS.refused("load of no text", Checks.STATE, RosettePlate::new, RosettePlate::load);
        CHECKS.refused("load of half a text", Checks.STATE, Plates::rich, RosettePlate::load);
        CHECKS.refused("load of a full text", Checks.STATE, Plates::fullText, RosettePlate::load);
        String[] wrong = {"E11", "E97", "E2", "E24i", "E24i10080", "E24i100824", "E24i100800s0019", "E24i040000",
            "E24i052100", "E24s24000", "E24s00301", "E24 ", "E12" + SIX + "i050000", "E12" + EIGHT + "s00000"};
        for (String text : wrong) {
            CHECKS.refused("load of " + text, Checks.STATE, () -> withText(text), RosettePlate::load);
        }
    }

    /** Of Plates.rich all but the text. */
    private static RosettePlate withText(String text) {
        RosettePlate x = Plates.rich();
        x.clearText();
        Checks.type(x, text);
        return x;
    }
}
