/**
 * The promises 26 to 29: a test for each sentence that names a boundary case. The answers are worked out from the
 * document. Promise 25 is in EdgesOfTwoRosettesTest.
 */
public final class EdgesOfWhatWouldBeTest extends Edges {
    public static void main(String[] args) {
        wheelsOfFiveToSixty();
        wheelsWithoutSightings();
        wheelsOfNone();
        wheelsRanges();
        wheelsOutOfRange();
        wheelForTurns();
        wheelForNone();
        wheelForOutOfRange();
        scriptOfGroups();
        everyCommand();
        decimalNumbers();
        commandsOfAFullPlate();
        scriptOnACopy();
        scriptAnswers();
        scriptOutOfRange();
        simulateStrokes();
        simulatePoints();
        simulateDifferentPoints();
        simulateSeeds();
        simulateWithTheRingAsItIs();
        simulateOutOfRange();
        CHECKS.close();
    }

    // ---- Promise 26: wheels

    private static void wheelsDue(RosettePlate x, int side, int hole, int start, int number, int least, int most) {
        String what = "wheels of the side " + side + ", the hole " + hole + ", the start " + start + " as ";
        due(what + 0, x.wheels(side, hole, start, 0), number);
        due(what + 1, x.wheels(side, hole, start, 1), least);
        due(what + 2, x.wheels(side, hole, start, 2), most);
    }

    /** Without a hole a wheel has the radius 200 - w or 200 + w alone, at all angles. */
    private static void wheelsOfFiveToSixty() {
        CHECKS.of("Promise 26", "0: how many wheels, of 5 to 60 teeth, would fit the sightings as layers with this side,"
            + " hole and start; 1: the teeth of the smallest one; 2: the teeth of the greatest one");
        for (int w = 4; w <= 61; w++) {
            boolean isWheel = w >= 5 && w <= 60;
            for (int side = 0; side <= 1; side++) {
                RosettePlate x = plateOf("E24s23" + (side == 0 ? 200 - w : 200 + w));
                wheelsDue(x, side, 0, 0, isWheel ? 1 : 0, isWheel ? w : NONE, isWheel ? w : NONE);
                wheelsDue(x, 1 - side, 0, 0, 0, NONE, NONE);
            }
        }
        // With the hole 1 a wheel of 5 is at 195 at each angle, one of 6 at 194 + 1 where its u is 0.
        wheelsDue(plateOf("E24s00195"), 0, 1, 0, 2, 5, 6);
        wheelsDue(plateOf("E24s00195s01195"), 0, 1, 0, 1, 5, 5);
        wheelsDue(plateOf("E24s00195"), 0, 1, 1, 1, 5, 5);
    }

    /** Promise 26 too: "0: how many wheels, of 5 to 60 teeth, would fit the sightings". */
    private static void wheelsWithoutSightings() {
        CHECKS.of("Terms, sightings", "(it does if there are none)");
        wheelsDue(new RosettePlate(), 0, 0, 0, 56, 5, 60);
        wheelsDue(new RosettePlate(), 1, 20, 23, 56, 5, 60);
        RosettePlate x = plateOf("E24s00300");
        wheelsDue(x, 0, 0, 0, 0, NONE, NONE);
        x.forget();
        wheelsDue(x, 0, 0, 0, 56, 5, 60);
    }

    private static void wheelsOfNone() {
        CHECKS.of("Promise 26", "Returns that number; for 1 and 2 NONE if there is none.");
        wheelsDue(plateOf("E24s00000"), 0, 20, 0, 0, NONE, NONE);
        wheelsDue(plateOf("E24s00300"), 1, 20, 0, 0, NONE, NONE);
        wheelsDue(plateOf("E24s00195s00194"), 0, 0, 0, 0, NONE, NONE);
        // Layers that are there already do not count.
        wheelsDue(plateOf("E24i100800s00198"), 1, 0, 0, 0, NONE, NONE);
    }

    private static void wheelsRanges() {
        CHECKS.of("Promise 26", "`side`: 0 or 1 .. `hole`: 0 to 20 .. `start`: 0 to the teeth of the ring less 1");
        for (int ring : new int[] {12, 24, 96}) {
            RosettePlate x = plateOf("E" + ring);
            wheelsDue(x, 0, 0, 0, 56, 5, 60);
            wheelsDue(x, 1, 20, ring - 1, 56, 5, 60);
            CHECKS.due("wheels behind the last tooth", () -> x.wheels(0, 0, ring, 0), Checks.ARGUMENT);
            CHECKS.due("wheels ahead of the first tooth", () -> x.wheels(0, 0, -1, 0), Checks.ARGUMENT);
        }
    }

    private static void wheelsOutOfRange() {
        CHECKS.of("Promise 26", "Throws `IllegalArgumentException` if an argument is out of range");
        // The ring of Plates.rich has 30 teeth.
        int[][] wrong = {{-1, 2}, {-1, 21}, {-1, 30}, {-1, 3}};
        for (int i = 0; i < wrong.length; i++) {
            for (int v : new int[] {wrong[i][0], wrong[i][1], Integer.MIN_VALUE, Integer.MAX_VALUE}) {
                int[] w = new int[4];
                w[i] = v;
                noArgument("wheels(" + w[0] + ", " + w[1] + ", " + w[2] + ", " + w[3] + ")",
                    x -> x.wheels(w[0], w[1], w[2], w[3]));
            }
        }
    }

    // ---- Promise 27: wheelFor

    /** The turns of a wheel by counting: the first number of turns that is also a number of whole wheels. */
    private static int countedTurns(int ring, int wheel) {
        int turns = 1;
        while (turns * ring % wheel != 0) {
            turns++;
        }
        return turns;
    }

    private static void wheelForTurns() {
        CHECKS.of("Promise 27", "`turns`: 1 to 60 .. Returns the greatest wheel, of 5 to 60 teeth, that would close after"
            + " just so many turns");
        due("the greatest wheel for 1 turn of 60", plateOf("E60").wheelFor(1), 60);
        due("the greatest wheel for 1 turn of 96", plateOf("E96").wheelFor(1), 48);
        due("the greatest wheel for 60 turns of 89", plateOf("E89").wheelFor(60), 60);
        due("the smallest wheel of all", plateOf("E13").wheelFor(5), 5);
        due("5 turns of 12: 60, not 5", plateOf("E12").wheelFor(5), 60);
        for (int ring : new int[] {12, 13, 24, 60, 89, 96}) {
            RosettePlate x = plateOf("E" + ring);
            for (int turns = 1; turns <= 60; turns++) {
                int want = NONE;
                for (int wheel = 5; wheel <= 60; wheel++) {
                    want = countedTurns(ring, wheel) == turns ? wheel : want;
                }
                due("wheelFor(" + turns + ") in " + ring, x.wheelFor(turns), want);
            }
        }
    }

    private static void wheelForNone() {
        CHECKS.of("Promise 27", "NONE if there is none.");
        // In a prime ring the turns are the teeth of the wheel, of which there are no 1 to 4.
        RosettePlate prime = plateOf("E89");
        for (int turns = 1; turns <= 4; turns++) {
            due("wheelFor(" + turns + ") in 89", prime.wheelFor(turns), NONE);
        }
        due("wheelFor(5) in 89", prime.wheelFor(5), 5);
        due("wheelFor(60) in 24", new RosettePlate().wheelFor(60), NONE);
        due("wheelFor(1) in 89", prime.wheelFor(1), NONE);
    }

    private static void wheelForOutOfRange() {
        CHECKS.of("Promise 27", "Throws `IllegalArgumentException` if turns is out of range");
        for (int turns : new int[] {0, 61, -1, Integer.MIN_VALUE, Integer.MAX_VALUE}) {
            noArgument("wheelFor(" + turns + ")", x -> x.wheelFor(turns));
        }
    }

    // ---- Promise 28: runScript

    private static void scriptOfGroups() {
        CHECKS.of("Promise 28", "A script has 1 to 3 commands; each is a group of five decimal digits d1 to d5, and the"
            + " first command is the highest group of the number (with zeros before it, if it has fewer digits).");
        RosettePlate x = plateOf("E24i100800o160400");
        due("one group", x.runScript(1, 60005), NONE);
        due("two groups", x.runScript(2, 60005_61002L), NONE);
        due("three groups", x.runScript(3, 60005_61002_90012L), NONE);
        due("one group of two", x.runScript(2, 60005), 0);
        due("one group of three", x.runScript(3, 60005), 0);
        due("two groups of three", x.runScript(3, 60005_61002L), 0);
        due("a digit too few", x.runScript(1, 6000), 0);
        due("a group of zeros between", x.runScript(3, 60005_00000_61002L), 1);
        due("a group of zeros at the end", x.runScript(3, 60005_61002_00000L), 2);
        due("no digits but 0, one group", x.runScript(1, 0), 0);
        due("no digits but 0, three groups", x.runScript(3, 0), 0);
        due("the greatest number of one group", x.runScript(1, 99999), 0);
        due("the greatest number of two groups", x.runScript(2, 9999999999L), 0);
        due("the greatest number of three groups", x.runScript(3, 999999999999999L), 0);
        due("the smallest number with all digits", x.runScript(3, 10000_00000_00000L), 0);
    }

    /**
     * Four layers in a ring of 24. Of the holes 8 and 4 of a wheel of 10, with starts 0 and 1, the radii 194 at the odd
     * angles and 186 at the even ones are of both: 24 points. The wheel of 16 is at its angles behind the start, by 8,
     * at 220 and 212, 219 and 213, 218 and 214, 217 and 215, 216 alone, and back; with the start 22 instead of 0 the
     * angles 3 and 7, by 8, have the same ones: 3 * 4 points. The sighting is a point of the layer 0 only.
     */
    private static final String FOUR = "E24i100800i100401o160400o160422s00198";
    private static final int[][] COMMON = {{72, 24, 0, 0}, {24, 72, 0, 0}, {0, 0, 45, 12}, {0, 0, 12, 45}};
    private static final int[][] TURNED = {{0, NONE, NONE, NONE}, {NONE, 0, NONE, NONE}, {NONE, NONE, 0, 6},
        {NONE, NONE, 2, 0}};
    private static final int[] TURNS = {5, 5, 2, 2};
    private static final int[] LOBES = {12, 12, 3, 3};

    private static boolean succeeds(int kind, int a, int b, int xy) {
        switch (kind) {
            case 1: return a < 4 && (b == 0 && xy >= 5 && xy <= 60 || b == 1 && xy <= 1 || b == 2 && xy <= 20
                || b == 3 && xy <= 23);
            case 2: return a < 4 && b == 0 && xy == 0;
            case 3: return a == 0 && b == 0 && xy >= 12 && xy <= 96;
            case 4: return a <= 1 && 10 * b + xy / 10 >= 5 && 10 * b + xy / 10 <= 60;
            case 5: return a < 4 && b < 4 && COMMON[a][b] >= xy;
            case 6: return a < 4 && b == 0 && TURNS[a] == xy;
            case 7: return a < 4 && b < 4 && TURNED[a][b] == xy;
            case 8: return a <= 1 && b == 0 && xy == 0;
            case 9: return a < 4 && b == 0 && LOBES[a] == xy;
            default: return false;
        }
    }

    private static final String[] COMMANDS = {
        "The commands 1 to 4 fail if the method would throw an exception; commands with layers that do not exist fail,"
            + " and so does any other group (also one with another digit where a 0 is written).",
        "1 l q x y: change(l, q, xy).", "2 l 0 0 0: remove(l).", "3 0 0 x y: setRing(xy).",
        "4 i w w h: addLayer(ww, i, h, 0).", "5 l m x y: succeeds if common(l, m) is at least xy.",
        "6 l 0 x y: succeeds if the layer l has xy turns.", "7 l m x y: succeeds if turned(l, m) is xy.",
        "8 n 0 0 0: succeeds if at least n layers fit the sightings.", "9 l 0 x y: succeeds if the layer l has xy lobes."};

    /** All ten thousand groups that begin with each digit, on the plate FOUR. */
    private static void everyCommand() {
        for (int kind = 0; kind < COMMANDS.length; kind++) {
            CHECKS.of("Promise 28", COMMANDS[kind]);
            RosettePlate x = plateOf(FOUR);
            for (int rest = 0; rest < 10000; rest++) {
                if (rest % 400 == 0) {
                    x = plateOf(FOUR);
                }
                boolean right = succeeds(kind, rest / 1000, rest / 100 % 10, rest % 100);
                due("the command " + (10000 * kind + rest), x.runScript(1, 10000 * kind + rest), right ? NONE : 0);
            }
        }
    }

    private static void decimalNumbers() {
        CHECKS.of("Promise 28", "xy and ww are decimal numbers.");
        // The wheel of 08 and the hole of 09 would be no octal numbers; 10 is ten, and not two, eight or sixteen.
        copied("E24i100800", 3, 10008_60001_90003L, NONE);
        copied("E24i100800", 3, 10209_10010_60005L, NONE);
        copied("E24", 3, 40080_60001_90003L, NONE);
        copied("E24", 3, 40100_60005_90012L, NONE);
        copied("E24i100800", 3, 30096_60005_90048L, NONE);
        copied("E24i100800", 2, 30012_90006L, NONE);
    }

    private static void commandsOfAFullPlate() {
        CHECKS.of("Promise 28", "The commands 1 to 4 fail if the method would throw an exception");
        RosettePlate x = plateOf("E24" + "i100800".repeat(6));
        for (int group = 40000; group < 50000; group += 23) {
            due("a seventh layer by " + group, x.runScript(1, group), 0);
        }
        RosettePlate full = plateOf("E24" + "i100800".repeat(6));
        due("a layer in the place of another", full.runScript(2, 25000_40050L), NONE);
        due("two layers in the place of another", full.runScript(3, 25000_40050_40050L), 2);
        due("the layer 5 of six", full.runScript(1, 25000), NONE);
        due("the layer 6 of six", full.runScript(1, 26000), 0);
        due("six that fit", full.runScript(1, 86000), NONE);
        due("seven that fit", full.runScript(1, 87000), 0);
        RosettePlate none = new RosettePlate();
        due("a layer of none", none.runScript(1, 20000), 0);
        due("0 that fit of none", none.runScript(1, 80000), NONE);
        due("1 that fits of none", none.runScript(1, 81000), 0);
    }

    private static void scriptOnACopy() {
        CHECKS.of("Promise 28", "Runs a script on a copy of the state.");
        // In a ring of 12 the start 23 becomes 0, and the angle 23, which then is one of even radii only.
        copied("E24i100800i100823s23189", 3, 30012_70100_80000L, NONE);
        copied("E24i100800i100823s23189", 1, 70100, 0);
        copied("E24i100800s23189", 1, 81000, NONE);
        copied("E24i100800s23189", 2, 30012_81000L, 1);
        copied("E24i100800", 2, 30012_10311L, NONE);
        copied("E24i100800", 2, 30012_10312L, 1);
        copied("E24i100800", 2, 30096_10395L, NONE);
        copied("E24i100800", 2, 30096_10396L, 1);
        copied("E24i100800", 1, 10324, 0);
        copied("E24i100800i120000i160000", 3, 20000_20000_20000L, NONE);
        copied("E24i100800i120000", 3, 20000_20000_20000L, 2);
        copied("E24i100800i120000", 2, 20000_21000L, 1);
        copied("E24i100800i120000", 2, 20000_60001L, NONE);
        copied("E24i100800i120000", 2, 21000_60005L, NONE);
        // The layer that 4 adds has the start 0 and is the last one; its hole has one digit.
        copied("E24i240923", 2, 40249_70101L, NONE);
        copied("E24i240923", 2, 40248_70101L, 1);
        copied("E24i240923", 2, 41249_70101L, 1);
        copied("E24", 3, 40050_60005_90024L, NONE);
        copied("E24", 3, 41600_60005_90002L, NONE);
        copied("E24i100800", 3, 10060_60005_90002L, NONE);
        copied("E24i100800", 3, 10101_50072_50073L, 2);
    }

    private static void copied(String text, int n, long script, int want) {
        RosettePlate x = plateOf(text);
        due("the script " + script + " on " + text, x.runScript(n, script), want);
        due("the script " + script + " again", x.runScript(n, script), want);
        CHECKS.same("the object after " + script, Checks.drain(x), Checks.drain(plateOf(text)));
    }

    private static void scriptAnswers() {
        CHECKS.of("Promise 28", "Returns the index, from 0, of the first command that fails; NONE if all succeed.");
        RosettePlate x = plateOf("E24i100800");
        long right = 60005;
        long wrong = 60004;
        for (int which = 0; which < 8; which++) {
            long first = (which & 1) == 0 ? right : wrong;
            long second = (which & 2) == 0 ? right : wrong;
            long third = (which & 4) == 0 ? right : wrong;
            int want = first == wrong ? 0 : second == wrong ? 1 : third == wrong ? 2 : NONE;
            due("three commands", x.runScript(3, (first * 100000 + second) * 100000 + third), want);
            due("two commands", x.runScript(2, first * 100000 + second), want == 2 ? NONE : want);
            due("one command", x.runScript(1, first), want == 0 ? 0 : NONE);
        }
    }

    private static void scriptOutOfRange() {
        CHECKS.of("Promise 28", "`n`: number of commands, 1 to 3 .. `script`: the commands, a number of at most 5 * n"
            + " digits (0 or more) .. Throws `IllegalArgumentException` if n is out of range, or if script is negative or"
            + " has more than 5 * n digits");
        for (int n : new int[] {0, 4, -1, Integer.MIN_VALUE, Integer.MAX_VALUE}) {
            noArgument("runScript(" + n + ", 0)", x -> x.runScript(n, 0));
            noArgument("runScript(" + n + ", 20000)", x -> x.runScript(n, 20000));
        }
        long unit = 1;
        for (int n = 1; n <= 3; n++) {
            unit *= 100000;
            int groups = n;
            for (long script : new long[] {unit, unit + 1, 10 * unit, Long.MAX_VALUE, -1, -unit, Long.MIN_VALUE}) {
                noArgument("runScript(" + n + ", " + script + ")", x -> x.runScript(groups, script));
            }
            due("the greatest number for " + n, Plates.rich().runScript(n, unit - 1), 0);
            due("the smallest number for " + n, Plates.rich().runScript(n, 0), 0);
        }
    }

    // ---- Promise 29: simulate

    private static void simulateStrokes() {
        CHECKS.of("Promise 29", "`m`: number of strokes, 1 to 200");
        RosettePlate x = new RosettePlate();
        due("one stroke", x.simulate(0, 1), 1172);
        due("200 strokes", x.simulate(0, 200), 191268);
        CHECKS.due("no stroke", () -> x.simulate(0, 0), Checks.ARGUMENT);
        CHECKS.due("201 strokes", () -> x.simulate(0, 201), Checks.ARGUMENT);
    }

    /**
     * The seeds were chosen so that x becomes 0, -1 and so on. With r = 0 it is the point (0, 195) of a wheel of 5.
     * With r = 2147483647 the wheel has 5 + 15 teeth, the side is 1, the hole 0, the step 287: the point (23, 220).
     */
    private static void simulatePoints() {
        CHECKS.of("Promise 29", "r = (int) (x >>> 33) is computed; it cuts the point at which the pen of the layer with"
            + " the wheel 5 + r % 56, the side r / 64 % 2, the hole r / 128 % 21 and the start 0 is at the step"
            + " r / 4096 % 1000.");
        RosettePlate x = new RosettePlate();
        due("x = 0, r = 0", x.simulate(-7379792620528906219L, 1), 1195);
        due("x = 2 ^ 33 - 1, r = 0", x.simulate(4483922187169113968L, 1), 1195);
        due("x = 2 ^ 33, r = 1: the wheel of 6", x.simulate(-84997745826115563L, 1), 1194);
        due("x = -1, r = 2 ^ 31 - 1", x.simulate(-2810872687533676688L, 1), 1220);
        // r = 123535: the wheel of 60 inside, the hole 20, the step 30; r = 2631: around, the step 0.
        due("the smallest radius of all", x.simulate(-5236435070300762091L, 1), 1120);
        due("the greatest radius of all", x.simulate(611686064579629077L, 1), 1280);
        // r = 4091904: the wheel of 45 inside, the hole 6, the step 999, at which u is 9: 155 + 6 * 9 / 45.
        due("the step 999", x.simulate(-5975689883579887595L, 1), 1156);
    }

    private static void simulateDifferentPoints() {
        CHECKS.of("Promise 29", "Returns 1000 * (the number of different points that are cut) + (the greatest radius of"
            + " them).");
        RosettePlate x = plateOf("E12");
        // The steps 767 and 431 of wheels of 44 and of 54 teeth: both are at the radius 146 and the angle 11.
        due("two strokes at one point", x.simulate(6724, 2), 1146);
        due("two strokes that differ, the first one at 195", new RosettePlate().simulate(-7379792620528906219L, 2), 2195);
    }

    private static void simulateSeeds() {
        CHECKS.of("Promise 29", "A long x starts as the seed. .. (with long overflow) .. `seed`: any long");
        RosettePlate x = new RosettePlate();
        long[][] want = {{0, 1172, 191268}, {1, 1227, 191268}, {-1, 1155, 193269}, {Long.MAX_VALUE, 1163, 193276},
            {Long.MIN_VALUE, 1172, 193264}};
        for (long[] w : want) {
            due("one stroke of " + w[0], x.simulate(w[0], 1), w[1]);
            due("200 strokes of " + w[0], x.simulate(w[0], 200), w[2]);
        }
    }

    private static void simulateWithTheRingAsItIs() {
        CHECKS.of("Promise 29", "Simulates m strokes on a plate without layers and with the ring as it is.");
        // The steps of the two strokes are 767 and 431, 11 in 12 but 23 in 24: the point is another one.
        due("two strokes in 12", plateOf("E12i100800s00198").simulate(6724, 2), 1146);
        due("200 strokes in 96", plateOf("E96").simulate(0, 200), 199268);
        RosettePlate x = plateOf("E24" + "i100800".repeat(6) + "s00198".repeat(8));
        due("200 strokes on six layers", x.simulate(0, 200), 191268);
        due("points of the six layers then", x.about(3), 72);
        x.setRing(96);
        due("200 strokes in the ring of 96", x.simulate(0, 200), 199268);
    }

    private static void simulateOutOfRange() {
        CHECKS.of("Promise 29", "Throws `IllegalArgumentException` if m is out of range");
        for (int m : new int[] {0, 201, -1, Integer.MIN_VALUE, Integer.MAX_VALUE}) {
            noArgument("simulate(0, " + m + ")", x -> x.simulate(0, m));
        }
        due("simulate of one stroke", Plates.rich().simulate(-7379792620528906219L, 1), 1195);
    }
}
