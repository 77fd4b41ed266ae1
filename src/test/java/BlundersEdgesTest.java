/** The boundary cases of the promises 20 to 24: needed observations, drops, the worst one, cleaning. */
public final class BlundersEdgesTest {
    private static final Edges EDGES = new Edges();
    private static final String[] NAMES = {"isNeeded", "dropTop", "dropBottom"};
    // Each of 5 points told to each other one: all say 0, but the first of them 1.
    private static final String ALL_PAIRS = "5x addPoint; fix 0 0 0; observe 0 0 0 1 1 1; observe 0 0 0 2 0 1;"
            + "observe 0 0 0 3 0 1; observe 0 0 0 4 0 1; observe 0 0 1 2 0 1; observe 0 0 1 3 0 1;"
            + "observe 0 0 1 4 0 1; observe 0 0 2 3 0 1; observe 0 0 2 4 0 1; observe 0 0 3 4 0 1";
    private static final String HELD = "2x addPoint; fix 0 0 0; fix 1 0 0";

    public static void main(String[] args) {
        wrongObservations();
        notInUse();
        isNeeded();
        drops();
        worst();
        worstOfSeveral();
        wrongCleaning();
        cleanLimits();
        cleanAgain();
        EDGES.end();
    }

    private static void look(int promise, String sentence, String... texts) {
        EDGES.look(promise, sentence, texts);
    }

    private static void wrongObservations() {
        String[] want = {"false", "9", "1"};
        for (int turn = 0; turn < NAMES.length; turn++) {
            String name = NAMES[turn];
            look(20 + turn, name + ", such an observation", HELD, name + " 0 = INDEX", "2x observe 0 0 0 1 3 1",
                    name + " 0 = " + want[turn], name + " 1 = " + want[turn], name + " -1 = INDEX",
                    name + " 2 = INDEX", name + " MIN = INDEX", name + " MAX = INDEX");
            look(20 + turn, name + ", the last of 60", HELD, "fix 0 2 0; fix 1 2 0", "10x observe 0 1 0 1 1 1",
                    "10x observe 1 1 0 1 1 1; 10x observe 2 1 0 1 1 1; 10x observe 3 1 0 1 1 1",
                    "10x observe 4 1 0 1 1 1; 10x observe 4 2 0 1 -3 1", name + " 59 = " + want[turn],
                    name + " 49 = NONE", name + " 60 = INDEX");
        }
    }

    private static void notInUse() {
        String[] needed = {"true", "UNSUPPORTED", "UNSUPPORTED"};
        String[] spare = {"false", "18", "1"};
        for (int turn = 0; turn < NAMES.length; turn++) {
            String name = NAMES[turn];
            look(20 + turn, name + ", not in use, and needed", "3x addPoint", "observe 1 1 0 1 3 1", name + " 0 = NONE",
                    "fix 2 1 0; fix 0 0 0", name + " 0 = NONE", "fix 0 1 0", name + " 0 = " + needed[turn],
                    "mask 0 true", name + " 0 = NONE", "mask 0 false", name + " 0 = " + needed[turn], "release 0 1",
                    name + " 0 = NONE");
            look(20 + turn, name + ", not in use, and not needed", "2x addPoint", "2x observe 1 1 0 1 3 1",
                    "observe 1 1 0 1 -3 1", name + " 2 = NONE", "fix 0 1 0; fix 1 1 0; mask 2 true",
                    name + " 2 = NONE", "mask 2 false; mask 0 true; release 1 1", name + " 2 = " + spare[turn]);
            look(20 + turn, name + ", the first that applies", "2x addPoint", "observe 0 0 0 1 1 1",
                    name + " 1 = INDEX", name + " 0 = NONE", "fix 1 0 0", name + " 1 = INDEX",
                    name + " 0 = " + needed[turn]);
        }
    }

    private static void isNeeded() {
        look(20, "a point would not hang any more without it", "3x addPoint", "fix 0 0 0",
                "observe 0 0 0 1 5 1; observe 0 0 1 2 5 1", "isNeeded 0 = true", "isNeeded 1 = true", "fix 2 0 0",
                "isNeeded 0 = false", "isNeeded 1 = false", "release 0 0", "isNeeded 0 = true", "isNeeded 1 = true",
                "observe 0 0 2 1 5 1", "isNeeded 0 = true", "isNeeded 1 = false", "isNeeded 2 = false");
        look(20, "a fixed point hangs without any", HELD, "observe 0 0 0 1 5 1", "isNeeded 0 = false", "release 1 0",
                "isNeeded 0 = true", "fix 1 0 3; release 0 0", "isNeeded 0 = true", "fix 0 0 0", "isNeeded 0 = false");
        look(20, "of two the other one is enough", "2x addPoint", "fix 0 0 0", "observe 0 0 0 1 5 1",
                "isNeeded 0 = true", "observe 0 0 1 0 5 2", "isNeeded 0 = false", "isNeeded 1 = false", "mask 0 true",
                "isNeeded 1 = true", "mask 0 false", "isNeeded 1 = false");
        look(20, "a ring of 6", "6x addPoint", "fix 3 0 0", "observe 0 0 0 1 1 1; observe 0 0 1 2 1 1",
                "observe 0 0 2 3 1 1; observe 0 0 3 4 1 1; observe 0 0 4 5 1 1", "isNeeded 0 = true",
                "isNeeded 4 = true", "observe 0 0 5 0 1 1", "isNeeded 0 = false", "isNeeded 2 = false",
                "isNeeded 4 = false", "isNeeded 5 = false");
        look(20, "between two rings", "6x addPoint", "fix 0 0 0",
                "observe 0 0 0 1 1 1; observe 0 0 1 2 1 1; observe 0 0 2 0 1 1", "observe 0 0 2 3 1 1",
                "observe 0 0 3 4 1 1; observe 0 0 4 5 1 1; observe 0 0 5 3 1 1", "isNeeded 3 = true",
                "isNeeded 2 = false", "isNeeded 4 = false", "fix 5 0 0", "isNeeded 3 = false");
        look(20, "another epoch or axis is of no help", "2x addPoint", "fix 0 0 0; fix 0 1 0", "observe 0 0 0 1 1 1",
                "observe 1 0 0 1 1 1; observe 0 1 0 1 1 1", "isNeeded 0 = true", "isNeeded 1 = true",
                "isNeeded 2 = true");
    }

    private static void drops() {
        look(21, "the least sum is not less without it", "2x addPoint", "fix 0 0 0", "2x observe 0 0 0 1 5 1",
                "dropTop 0 = 0; dropBottom 0 = 1", "observe 0 0 0 1 5 2", "dropTop 2 = 0; dropBottom 2 = 1",
                "fix 1 0 5", "dropTop 1 = 0; dropBottom 1 = 1");
        look(21, "the greatest drop", "2x addPoint", "fix 0 0 -4999; fix 1 0 4999", "10x observe 0 0 0 1 -999 2",
                "dropTop 0 = 241868018; dropBottom 0 = 1", "dropTop 9 = 241868018; dropBottom 9 = 1");
        look(22, "a fraction without a common divisor", ALL_PAIRS, "dropTop 0 = 3; dropBottom 0 = 5",
                "dropTop 1 = 1; dropBottom 1 = 15", "dropTop 4 = 1; dropBottom 4 = 15",
                "dropTop 9 = 0; dropBottom 9 = 1");
        look(21, "all of the sum", "3x addPoint", "fix 0 0 0", "observe 0 0 0 1 1 1; observe 0 0 1 2 1 1",
                "observe 0 0 2 0 1 2", "dropTop 0 = 18; dropBottom 0 = 5", "dropTop 2 = 18; dropBottom 2 = 5");
        look(21, "needed no more, and needed again", "3x addPoint", "fix 0 0 0",
                "observe 0 0 0 1 5 1; observe 0 0 1 2 5 1", "dropTop 1 = UNSUPPORTED", "dropBottom 1 = UNSUPPORTED",
                "fix 2 0 12", "dropTop 1 = 2; dropBottom 1 = 1", "mask 0 true", "dropTop 1 = UNSUPPORTED",
                "dropBottom 1 = UNSUPPORTED", "fix 1 0 3", "dropTop 1 = 16; dropBottom 1 = 1");
    }

    private static void worst() {
        look(23, "such an epoch or axis", HELD, "observe 0 0 0 1 1 1", "fix 0 2 0; fix 1 2 0", "observe 4 2 0 1 1 1",
                "worst 0 0 = 0", "worst 4 2 = 1", "worst -1 0 = INDEX", "worst 5 0 = INDEX", "worst 0 -1 = INDEX",
                "worst 0 3 = INDEX", "worst MIN 0 = INDEX", "worst MAX 0 = INDEX", "worst 0 MIN = INDEX",
                "worst 0 MAX = INDEX");
        look(23, "the index ahead of there being none", "worst 5 0 = INDEX", "worst 0 3 = INDEX", "worst 0 0 = NONE");
        look(23, "none that is not needed", "3x addPoint", "fix 0 0 0", "worst 0 0 = NONE", "observe 0 0 0 1 9 1",
                "observe 0 0 1 2 9 1", "worst 0 0 = NONE", "fix 2 0 0", "worst 0 0 = 0");
        look(23, "a drop above 0", "2x addPoint", "fix 0 0 0", "2x observe 0 0 0 1 9 1", "worst 0 0 = NONE",
                "fix 1 0 9", "worst 0 0 = NONE", "fix 1 0 8", "worst 0 0 = 0", "release 1 0", "worst 0 0 = NONE",
                "observe 0 0 0 1 8 1", "worst 0 0 = 2");
        look(23, "a drop below 1", ALL_PAIRS, "worst 0 0 = 0", "mask 0 true", "worst 0 0 = NONE");
        look(23, "none without a fixed point", "2x addPoint", "observe 0 0 0 1 9 1; observe 0 0 0 1 3 1",
                "worst 0 0 = NONE", "fix 1 0 0", "worst 0 0 = 0");
        look(23, "none that is masked", HELD, "observe 0 0 0 1 9 1; observe 0 0 0 1 8 1", "worst 0 0 = 0",
                "mask 0 true", "worst 0 0 = 1", "mask 1 true", "worst 0 0 = NONE");
    }

    private static void worstOfSeveral() {
        look(23, "of several the lowest number", HELD, "2x observe 0 0 0 1 0 1; 3x observe 0 0 0 1 4 1", "worst 0 0 = 2",
                "observe 0 0 0 1 -4 1", "worst 0 0 = 2", "mask 2 true", "worst 0 0 = 3", "observe 0 0 0 1 -5 1",
                "worst 0 0 = 6", "mask 6 true; mask 3 true; mask 4 true", "worst 0 0 = 5");
        look(23, "alike by weight and residual", HELD, "observe 0 0 0 1 7 2; observe 0 0 0 1 -7 2", "worst 0 0 = 0",
                "observe 0 0 1 0 9 1", "worst 0 0 = 0", "observe 0 0 1 0 10 1", "worst 0 0 = 3");
        look(23, "each of a ring alike", "3x addPoint", "fix 0 0 0", "observe 0 0 0 1 1 1; observe 0 0 1 2 1 2",
                "observe 0 0 2 0 1 1", "worst 0 0 = 0", "mask 0 true", "worst 0 0 = NONE");
        look(23, "the greatest may be the last of 60", HELD, "10x observe 0 1 0 1 1 1; 10x observe 1 1 0 1 1 1",
                "10x observe 2 1 0 1 1 1; 10x observe 3 1 0 1 1 1; 10x observe 4 1 0 1 1 1",
                "9x observe 4 0 0 1 5 1; observe 4 0 0 1 6 1", "worst 4 0 = 59", "mask 59 true", "worst 4 0 = 50",
                "worst 4 1 = NONE");
        look(23, "fractions that differ by little", "2x addPoint", "fix 0 0 0", "observe 0 0 0 1 998 1",
                "8x observe 0 0 0 1 0 1", "observe 0 0 0 1 -999 1", "worst 0 0 = 9", "fix 0 0 4999", "worst 0 0 = 9");
    }

    private static void wrongCleaning() {
        look(24, "such an epoch or axis", HELD, "observe 0 0 0 1 1 1", "fix 0 2 0; fix 1 2 0", "observe 4 2 0 1 1 1",
                "clean -1 0 0 = INDEX", "clean 5 0 0 = INDEX", "clean 0 -1 0 = INDEX", "clean 0 3 0 = INDEX",
                "clean MIN 0 0 = INDEX", "clean MAX 0 0 = INDEX", "clean 0 MIN 0 = INDEX", "clean 0 MAX 0 = INDEX",
                "masked = 0", "clean 4 2 0 = 1", "clean 0 0 0 = 1", "masked = 2");
        look(24, "a limit from 0 to 9999", HELD, "observe 0 0 0 1 100 1", "clean 0 0 -1 = ARGUMENT",
                "clean 0 0 10000 = ARGUMENT", "clean 0 0 MIN = ARGUMENT", "clean 0 0 MAX = ARGUMENT", "masked = 0",
                "clean 0 0 9999 = 1", "mask 0 false", "clean 0 0 0 = 1");
        look(24, "the index ahead of the limit", "clean 5 0 -1 = INDEX", "clean -1 0 10000 = INDEX",
                "clean 0 3 -1 = INDEX", "clean 0 -1 10000 = INDEX", "clean 0 0 -1 = ARGUMENT");
    }

    private static void cleanLimits() {
        look(24, "9999 times 3 is not less than 29997", HELD, "observe 0 0 0 1 2 1; observe 0 0 0 1 173 1",
                "observe 0 0 0 1 -8 1", "sumTop 0 0 = 29997", "clean 0 0 9999 = 0", "clean 0 0 9998 = 1",
                "isInUse 1 = false", "sumTop 0 0 = 68");
        look(24, "9999 times 3 is less than 29998", HELD, "observe 0 0 0 1 3 1; observe 0 0 0 1 33 1",
                "observe 0 0 0 1 170 1", "sumTop 0 0 = 29998", "clean 0 0 9999 = 1", "isInUse 2 = false");
        look(24, "a sum between two limits", "2x addPoint", "fix 0 0 0", "observe 0 0 0 1 0 1; observe 0 0 0 1 2 2",
                "sumTop 0 0 = 8; sumBottom 0 0 = 3", "clean 0 0 3 = 0", "clean 0 0 2 = 1", "isInUse 0 = false",
                "isNeeded 1 = true");
        look(24, "a sum of 0 is not greater than the limit 0", HELD, "2x observe 0 0 0 1 0 1", "clean 0 0 0 = 0",
                "masked = 0", "observe 0 0 0 1 1 1", "clean 0 0 1 = 0", "clean 0 0 0 = 1");
        look(24, "a sum below 1", ALL_PAIRS, "clean 0 0 1 = 0", "clean 0 0 0 = 1", "isInUse 0 = false",
                "sumTop 0 0 = 0", "clean 0 0 0 = 0");
        look(24, "the greatest sum", "2x addPoint", "fix 0 0 -4999; fix 1 0 4999", "10x observe 0 0 0 1 -999 2",
                "clean 0 0 9999 = 10", "masked = 10");
    }

    private static void cleanAgain() {
        look(24, "nothing to clean", "2x addPoint", "clean 0 0 0 = 0", "fix 0 0 0", "clean 0 0 0 = 0",
                "observe 0 0 0 1 9 1", "clean 0 0 0 = 0", "masked = 0");
        look(24, "again and again, as long as there is one", HELD, "observe 3 0 0 1 1 1; observe 3 0 0 1 2 1",
                "observe 3 0 0 1 3 1; observe 3 0 0 1 4 1; observe 3 0 0 1 5 1; observe 3 0 0 1 6 1",
                "observe 3 0 0 1 7 1; observe 3 0 0 1 8 1; observe 3 0 0 1 9 1; observe 3 0 0 1 10 1",
                "clean 3 0 0 = 10", "spare 3 0 = 0", "clean 3 0 0 = 0");
        look(24, "the last one is needed", "2x addPoint", "fix 0 0 0", "observe 0 0 0 1 0 1; observe 0 0 0 1 4 1",
                "observe 0 0 0 1 40 1", "clean 0 0 0 = 2", "isInUse 1 = true", "isNeeded 1 = true", "masked = 2");
        look(24, "the number of spare ones found anew", HELD, "observe 0 0 0 1 6 1; observe 0 0 0 1 5 1",
                "observe 0 0 0 1 3 1; observe 0 0 0 1 1 1", "clean 0 0 18 = 0", "clean 0 0 17 = 1",
                "sumTop 0 0 = 35; spare 0 0 = 3", "clean 0 0 12 = 0", "clean 0 0 11 = 1",
                "sumTop 0 0 = 10; spare 0 0 = 2", "clean 0 0 5 = 0", "clean 0 0 4 = 1", "clean 0 0 1 = 0",
                "clean 0 0 0 = 1");
        look(24, "the worst one found anew", "2x addPoint", "fix 0 0 0", "4x observe 0 0 0 1 0 1",
                "observe 0 0 0 1 10 2; observe 0 0 0 1 -9 1", "worst 0 0 = 4", "clean 0 0 1 = 2",
                "isInUse 4 = false", "isInUse 5 = false", "masked = 2");
        look(24, "a masked one is not cleaned, and does not count", HELD, "observe 0 0 0 1 9 1; observe 0 0 0 1 8 1",
                "mask 0 true", "clean 0 0 0 = 1", "masked = 2", "mask 0 true = true", "mask 1 true = true");
        look(24, "each epoch and axis by itself", HELD, "fix 0 1 0; fix 1 1 0", "observe 0 0 0 1 9 1",
                "observe 1 0 0 1 9 1; observe 0 1 0 1 9 1", "clean 0 0 0 = 1", "masked = 1", "isInUse 1 = true",
                "isInUse 2 = true");
    }
}
