/** The boundary cases of the promises 11 to 19: coordinates, doubts, residuals and sums. */
public final class FractionsEdgesTest {
    private static final Edges EDGES = new Edges();
    // Each of 5 points told to each other one: all say 0, but the first of them 1. A coordinate is then 1/5 of the
    // sum of what is told to its point, less that of the point 0; the doubt of all is 2/5.
    private static final String ALL_PAIRS = "5x addPoint; fix 0 0 0; observe 0 0 0 1 1 1; observe 0 0 0 2 0 1;"
            + "observe 0 0 0 3 0 1; observe 0 0 0 4 0 1; observe 0 0 1 2 0 1; observe 0 0 1 3 0 1;"
            + "observe 0 0 1 4 0 1; observe 0 0 2 3 0 1; observe 0 0 2 4 0 1; observe 0 0 3 4 0 1";
    private static final String CHAIN = "6x addPoint; observe 3 1 0 1 999 1; observe 3 1 1 2 999 1;"
            + "observe 3 1 2 3 999 1; observe 3 1 3 4 999 1; observe 3 1 4 5 999 1";

    public static void main(String[] args) {
        wrongArguments();
        notHanging();
        coordinates();
        rounded();
        doubts();
        residuals();
        sums();
        EDGES.end();
    }

    private static void look(int promise, String sentence, String... texts) {
        EDGES.look(promise, sentence, texts);
    }

    private static void wrongArguments() {
        String[] names = {"top", "bottom", "rounded", "doubtTop", "doubtBottom"};
        String[] first = {"4999", "1", "4999", "0", "1"};
        String[] last = {"-4999", "1", "-4999", "0", "1"};
        for (int turn = 0; turn < names.length; turn++) {
            String name = names[turn];
            String made = "6x addPoint; fix 0 0 4999; fix 5 2 -4999";
            look(11 + turn, name + ", such an epoch", made, name + " 0 0 0 = " + first[turn],
                    name + " 4 0 0 = " + first[turn], name + " -1 0 0 = INDEX", name + " 5 0 0 = INDEX",
                    name + " MIN 0 0 = INDEX", name + " MAX 0 0 = INDEX");
            look(11 + turn, name + ", such an axis", made, name + " 0 0 0 = " + first[turn],
                    name + " 0 2 5 = " + last[turn], name + " 0 -1 0 = INDEX", name + " 0 3 5 = INDEX",
                    name + " 0 MIN 0 = INDEX", name + " 0 MAX 0 = INDEX");
            look(11 + turn, name + ", such a point", made, name + " 4 0 0 = " + first[turn],
                    name + " 4 2 5 = " + last[turn], name + " 0 0 -1 = INDEX", name + " 0 2 6 = INDEX",
                    name + " 0 0 MIN = INDEX", name + " 0 0 MAX = INDEX");
            look(11 + turn, name + ", the index ahead of what does not hang", "addPoint", name + " 5 0 0 = INDEX",
                    name + " 0 3 0 = INDEX", name + " 0 0 1 = INDEX", name + " 0 0 0 = NONE");
        }
    }

    private static void notHanging() {
        String[] names = {"top", "bottom", "rounded", "doubtTop", "doubtBottom"};
        String[] want = {"15", "1", "15", "1", "1"};
        for (int turn = 0; turn < names.length; turn++) {
            String name = names[turn];
            look(11 + turn, name + ", a point that does not hang", "3x addPoint", name + " 1 1 1 = NONE",
                    "observe 1 1 0 1 5 1", name + " 1 1 1 = NONE", "fix 2 1 7", name + " 1 1 1 = NONE", "fix 0 0 7",
                    name + " 1 1 1 = NONE", "fix 0 1 10", name + " 1 1 1 = " + want[turn], name + " 0 1 1 = NONE",
                    "mask 0 true", name + " 1 1 1 = NONE", "mask 0 false", name + " 1 1 1 = " + want[turn],
                    "release 0 1", name + " 1 1 1 = NONE");
        }
    }

    private static void coordinates() {
        look(11, "the greatest and the least coordinate", CHAIN, "fix 0 1 4999", "top 3 1 5 = 9994",
                "rounded 3 1 5 = 9994", "fix 0 1 -4999", "top 3 1 5 = -4", "release 0 1", "fix 5 1 -4999",
                "top 3 1 0 = -9994", "bottom 3 1 0 = 1", "rounded 3 1 0 = -9994");
        look(11, "between two fixed points", "3x addPoint", "fix 0 0 0; fix 1 0 1", "observe 0 0 0 2 0 2",
                "observe 0 0 1 2 0 1", "top 0 0 2 = 1; bottom 0 0 2 = 3", "fix 1 0 -1",
                "top 0 0 2 = -1; bottom 0 0 2 = 3", "fix 1 0 3", "top 0 0 2 = 1; bottom 0 0 2 = 1", "fix 1 0 0",
                "top 0 0 2 = 0; bottom 0 0 2 = 1");
        look(12, "without a common divisor above 1", "2x addPoint", "fix 0 0 0", "4x observe 0 0 0 1 0 1",
                "observe 0 0 0 1 3 2", "top 0 0 1 = 1; bottom 0 0 1 = 1", "observe 0 0 0 1 0 2",
                "top 0 0 1 = 3; bottom 0 0 1 = 4", "observe 0 0 0 1 6 1", "top 0 0 1 = 4; bottom 0 0 1 = 3");
        look(12, "the bottom at least 1", "2x addPoint", "fix 0 0 -4999", "bottom 0 0 0 = 1",
                "observe 0 0 0 1 -1 1; observe 0 0 0 1 -2 1", "top 0 0 1 = -10001; bottom 0 0 1 = 2");
        look(11, "each point told to each other one", ALL_PAIRS, "top 0 0 1 = 2; bottom 0 0 1 = 5",
                "top 0 0 2 = 1; bottom 0 0 2 = 5", "top 0 0 3 = 1; bottom 0 0 3 = 5",
                "top 0 0 4 = 1; bottom 0 0 4 = 5", "top 0 0 0 = 0; bottom 0 0 0 = 1");
    }

    private static void rounded() {
        look(13, "halves up", "2x addPoint", "fix 0 0 0; fix 0 1 0", "observe 0 0 0 1 0 1; observe 0 0 0 1 1 1",
                "rounded 0 0 1 = 1", "observe 1 0 0 1 0 1; observe 1 0 0 1 -1 1", "rounded 1 0 1 = 0",
                "observe 2 0 0 1 1 1; observe 2 0 0 1 2 1", "rounded 2 0 1 = 2",
                "observe 3 0 0 1 -1 1; observe 3 0 0 1 -2 1", "rounded 3 0 1 = -1");
        look(13, "next to a half", "2x addPoint", "fix 0 0 0", "5x observe 0 0 0 1 0 1; 4x observe 0 0 0 1 1 1",
                "rounded 0 0 1 = 0", "observe 0 0 0 1 1 1", "rounded 0 0 1 = 1", "mask 0 true", "rounded 0 0 1 = 1",
                "fix 0 0 -1", "rounded 0 0 1 = 0", "mask 9 true; mask 8 true", "rounded 0 0 1 = -1",
                "mask 1 true", "rounded 0 0 1 = 0", "mask 2 true", "rounded 0 0 1 = 0");
        look(13, "halves at the edges", "2x addPoint", "fix 0 0 4999", "observe 0 0 0 1 999 1; observe 0 0 0 1 998 1",
                "rounded 0 0 1 = 5998", "fix 0 0 -4999", "observe 1 0 0 1 -999 1; observe 1 0 0 1 -998 1",
                "rounded 1 0 1 = -5997");
        look(13, "a whole number stays", "addPoint", "fix 0 0 4999", "rounded 0 0 0 = 4999", "fix 0 0 -4999",
                "rounded 0 0 0 = -4999", "fix 0 0 0", "rounded 0 0 0 = 0", "fix 0 0 -1", "rounded 0 0 0 = -1");
    }

    private static void doubts() {
        look(14, "0 for a fixed point", "2x addPoint", "fix 0 0 -7", "2x observe 0 0 0 1 1 2",
                "doubtTop 0 0 0 = 0; doubtBottom 0 0 0 = 1", "doubtTop 0 0 1 = 1; doubtBottom 0 0 1 = 4",
                "fix 1 0 3", "doubtTop 0 0 1 = 0; doubtBottom 0 0 1 = 1");
        look(14, "the greatest, at the end of a chain", CHAIN, "fix 0 1 0",
                "doubtTop 3 1 5 = 5; doubtBottom 3 1 5 = 1", "doubtTop 3 1 1 = 1; doubtBottom 3 1 1 = 1", "fix 5 1 0",
                "doubtTop 3 1 1 = 4; doubtBottom 3 1 1 = 5", "doubtTop 3 1 2 = 6; doubtBottom 3 1 2 = 5");
        look(15, "the least, of ten of weight 2", "2x addPoint", "fix 0 0 0", "10x observe 0 0 0 1 1 2",
                "doubtTop 0 0 1 = 1; doubtBottom 0 0 1 = 20", "mask 0 true",
                "doubtTop 0 0 1 = 1; doubtBottom 0 0 1 = 18");
        look(15, "what is told does not count, the weights do", "2x addPoint", "fix 0 0 0", "observe 0 0 0 1 999 1",
                "observe 0 0 0 1 -999 2", "doubtTop 0 0 1 = 1; doubtBottom 0 0 1 = 3");
        look(14, "each point told to each other one", ALL_PAIRS, "doubtTop 0 0 1 = 2; doubtBottom 0 0 1 = 5",
                "doubtTop 0 0 4 = 2; doubtBottom 0 0 4 = 5", "fix 1 0 0", "doubtTop 0 0 4 = 3; doubtBottom 0 0 4 = 10");
        look(14, "of a part alone", "4x addPoint", "fix 0 0 0; fix 2 0 0", "observe 0 0 0 1 0 2; observe 0 0 2 3 0 1",
                "doubtTop 0 0 1 = 1; doubtBottom 0 0 1 = 2", "doubtTop 0 0 3 = 1; doubtBottom 0 0 3 = 1");
    }

    private static void residuals() {
        String[] names = {"residualTop", "residualBottom"};
        String[] want = {"-3", "1"};
        for (int turn = 0; turn < names.length; turn++) {
            String name = names[turn];
            look(16 + turn, name + ", such an observation", "2x addPoint", "fix 0 0 0; fix 1 0 4",
                    name + " 0 = INDEX", "2x observe 0 0 0 1 1 1", name + " 0 = " + want[turn],
                    name + " 1 = " + want[turn], name + " -1 = INDEX", name + " 2 = INDEX", name + " MIN = INDEX",
                    name + " MAX = INDEX");
            look(16 + turn, name + ", not in use", "3x addPoint", "observe 2 1 0 1 1 1", name + " 0 = NONE",
                    "fix 2 1 0; fix 0 0 0", name + " 0 = NONE", "fix 0 1 0; fix 1 1 4", name + " 0 = " + want[turn],
                    "mask 0 true", name + " 0 = NONE", "mask 0 false; release 0 1", name + " 0 = " + turn,
                    "release 1 1", name + " 0 = NONE");
        }
        look(16, "the greatest, either way", "2x addPoint", "fix 0 0 -4999; fix 1 0 4999",
                "observe 0 0 0 1 -999 1; observe 0 0 1 0 999 1", "residualTop 0 = -10997", "residualTop 1 = 10997",
                "residualBottom 1 = 1");
        look(17, "nothing is 0 of 1", "2x addPoint", "fix 0 0 5", "observe 0 0 0 1 7 2", "residualTop 0 = 0",
                "residualBottom 0 = 1", "fix 1 0 12", "residualTop 0 = 0", "residualBottom 0 = 1");
        look(17, "each point told to each other one", ALL_PAIRS, "residualTop 0 = 3; residualBottom 0 = 5",
                "residualTop 1 = -1; residualBottom 1 = 5", "residualTop 4 = 1; residualBottom 4 = 5",
                "residualTop 9 = 0; residualBottom 9 = 1");
        look(16, "the last of 60", "2x addPoint", "fix 0 0 0; fix 1 0 0", "10x observe 0 1 0 1 1 1",
                "10x observe 1 1 0 1 1 1; 10x observe 2 1 0 1 1 1; 10x observe 3 1 0 1 1 1; 10x observe 4 1 0 1 1 1",
                "10x observe 4 0 0 1 8 1", "residualTop 59 = 8; residualBottom 59 = 1", "residualTop 49 = NONE",
                "residualTop 60 = INDEX");
    }

    private static void sums() {
        String[] names = {"sumTop", "sumBottom"};
        for (int turn = 0; turn < names.length; turn++) {
            String name = names[turn];
            look(18 + turn, name + ", such an epoch or axis", name + " 0 0 = " + turn, name + " 4 2 = " + turn,
                    name + " -1 0 = INDEX", name + " 5 0 = INDEX", name + " 0 -1 = INDEX", name + " 0 3 = INDEX",
                    name + " MIN 0 = INDEX", name + " MAX 0 = INDEX", name + " 0 MIN = INDEX",
                    name + " 0 MAX = INDEX", name + " 5 3 = INDEX");
        }
        look(18, "the greatest sum", "2x addPoint", "fix 0 2 -4999; fix 1 2 4999", "10x observe 4 2 0 1 -999 2",
                "sumTop 4 2 = 2418680180; sumBottom 4 2 = 1");
        look(19, "nothing is 0 of 1", "3x addPoint", "2x observe 0 0 0 1 1 1; observe 0 0 0 1 9 2",
                "sumTop 0 0 = 0; sumBottom 0 0 = 1", "fix 2 0 0", "sumTop 0 0 = 0; sumBottom 0 0 = 1", "fix 0 0 0",
                "mask 2 true", "sumTop 0 0 = 0; sumBottom 0 0 = 1", "mask 2 false",
                "sumTop 0 0 = 64; sumBottom 0 0 = 1");
        look(19, "a fraction without a common divisor", "2x addPoint", "fix 0 0 0", "observe 0 0 0 1 0 1",
                "observe 0 0 0 1 1 2", "sumTop 0 0 = 2; sumBottom 0 0 = 3", "observe 0 0 0 1 0 1",
                "sumTop 0 0 = 1; sumBottom 0 0 = 1");
        look(18, "each point told to each other one", ALL_PAIRS, "sumTop 0 0 = 3; sumBottom 0 0 = 5", "fix 1 0 1",
                "sumTop 0 0 = 3; sumBottom 0 0 = 2");
    }
}
