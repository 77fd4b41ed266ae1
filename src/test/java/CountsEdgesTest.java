/** The boundary cases of the promises 40 to 43: counts, shares and soundness, empty and full. */
public final class CountsEdgesTest {
    private static final Edges EDGES = new Edges();
    private static final String HELD = "2x addPoint; fix 0 0 0; fix 1 0 0";
    private static final String SIXTY = "10x observe 0 0 0 1 999 1; 10x observe 1 0 0 1 -999 2;"
            + "10x observe 2 0 1 0 999 1; 10x observe 3 0 0 1 -999 1; 10x observe 4 0 1 0 -999 1;"
            + "10x observe 0 1 0 1 999 1";

    public static void main(String[] args) {
        masked();
        usedShare();
        meanTold();
        isSound();
        lastCall();
        EDGES.end();
    }

    private static void look(int promise, String sentence, String... texts) {
        EDGES.look(promise, sentence, texts);
    }

    private static void masked() {
        look(40, "none are there", "masked = 0", "2x addPoint", "masked = 0");
        look(40, "none, one and all of 60", HELD, SIXTY, "masked = 0", "mask 59 true", "masked = 1", maskAll(),
                "masked = 60", "mask 60 true = INDEX", "masked = 60", "mask 0 false", "masked = 59");
        look(40, "those that are cleaned", HELD, "3x observe 0 0 0 1 4 1", "clean 0 0 0 = 3", "masked = 3",
                "mask 1 false", "masked = 2");
        look(40, "those that would not be in use, too", "2x addPoint; observe 0 0 0 1 4 1", "mask 0 true", "masked = 1");
    }

    private static String maskAll() {
        StringBuilder text = new StringBuilder("mask 0 true");
        for (int observation = 1; observation < 60; observation++) {
            text.append("; mask ").append(observation).append(" true");
        }
        return text.toString();
    }

    private static void usedShare() {
        look(41, "there are none", "usedShare = ARITHMETIC", HELD, "usedShare = ARITHMETIC", "observe 0 0 0 1 1 1",
                "usedShare = 1");
        look(41, "none in use, one, and all", "3x addPoint", "3x observe 0 0 0 1 1 1; 3x observe 4 2 1 2 1 1",
                "usedShare = 0", "fix 1 2 0; fix 0 0 0", "usedShare = 1", "release 0 0", "usedShare = 0.5",
                "mask 3 true", "usedShare = 2/6", "mask 4 true", "usedShare = 1/6", "mask 5 true", "usedShare = 0");
        look(41, "of 60", HELD, SIXTY, "usedShare = 50/60", "fix 0 1 0", "usedShare = 1", "mask 0 true",
                "usedShare = 59/60", "release 0 0; release 1 0", "usedShare = 10/60", maskAll(), "usedShare = 0",
                "mask 59 false", "usedShare = 1/60");
    }

    private static void meanTold() {
        look(42, "there are none", "meanTold = ARITHMETIC", HELD, "meanTold = ARITHMETIC", "observe 0 0 0 1 0 1",
                "meanTold = 0");
        look(42, "an amount has no sign", "2x addPoint", "observe 0 0 0 1 -999 1", "meanTold = 999",
                "observe 0 0 0 1 999 2", "meanTold = 999", "observe 0 0 0 1 0 2", "meanTold = 1998/3",
                "observe 0 0 0 1 -1 1", "meanTold = 1999/4", "3x observe 0 0 0 1 0 1", "meanTold = 1999/7");
        look(42, "of 60", HELD, SIXTY, "meanTold = 999", maskAll(), "meanTold = 999");
    }

    private static void isSound() {
        look(43, "empty", "isSound = true", "publish 0", "isSound = true", "addPoint", "isSound = true");
        look(43, "full", "6x addPoint; fix 0 0 4999; fix 1 0 -4999; fix 5 1 7", ring(0, 0), ring(1, 0), ring(2, 0),
                ring(3, 1), ring(4, 1), ring(4, 2), "isSound = true", "publish 0; publish 1; publish 2; publish 3",
                "publish 4; publish 0; publish 1; publish 2", "release 0 0; fix 3 0 1; mask 0 true; mask 31 true",
                "publish 3; publish 4; publish 0; publish 1", "isSound = true", "release 1 0; release 3 0; release 5 1",
                "isSound = true", maskAll(), "isSound = true", "publish 0 = STATE", "isSound = true");
        look(43, "a version of points that are fixed elsewhere now", "2x addPoint; fix 0 0 1; observe 0 0 0 1 5 1",
                "publish 0; fix 0 0 2; fix 1 0 -9", "isSound = true", "isFresh 0 = false", "release 0 0; release 1 0",
                "isSound = true", "addPoint; fix 2 0 4; observe 0 0 2 0 1 1", "isSound = true");
    }

    /** Ten observations among six points, the values and weights of any kind. */
    private static String ring(int epoch, int axis) {
        String net = "observe " + epoch + " " + axis;
        return net + " 0 1 999 2; " + net + " 1 2 -998 1; " + net + " 2 3 17 2; " + net + " 3 4 0 1; " + net
                + " 4 5 -999 2; " + net + " 5 0 1 2; " + net + " 0 3 444 1; " + net + " 4 1 -3 2; " + net
                + " 2 5 35 1; " + net + " 3 1 999 2";
    }

    private static void lastCall() {
        look(1, "the 512th call", "2x addPoint; fix 0 0 1; observe 0 0 0 1 3 1; publish 0", "400x top 0 0 1 = 4",
                "5x release 1 0 = NONE", "100x isSound = true", "masked = 0", "publishedTop 0 0 1 = 4");
    }
}
