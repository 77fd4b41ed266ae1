/** The boundary cases of the promises 1 to 10: points, observations, and the nets that they make. */
public final class NetsEdgesTest {
    private static final Edges EDGES = new Edges();
    // 50 observations in the nets of the axis 0, so that 10 are left of 60.
    private static final String FIFTY = "10x observe 0 0 0 1 5 1; 10x observe 1 0 0 1 5 1; 10x observe 2 0 0 1 5 1;"
            + "10x observe 3 0 0 1 5 1; 10x observe 4 0 0 1 5 1";

    public static void main(String[] args) {
        newObject();
        addPoint();
        fix();
        release();
        observeIndexes();
        observeNumbers();
        observeLimits();
        observeOrder();
        mask();
        isInUse();
        hangs();
        parts();
        spare();
        EDGES.end();
    }

    private static void look(int promise, String sentence, String... texts) {
        EDGES.look(promise, sentence, texts);
    }

    private static void newObject() {
        look(1, "a land without points", "hangs 0 0 0 = INDEX", "fix 0 0 0 = INDEX", "release 0 0 = INDEX",
                "top 0 0 0 = INDEX", "bottom 0 0 0 = INDEX", "rounded 0 0 0 = INDEX", "doubtTop 0 0 0 = INDEX",
                "doubtBottom 0 0 0 = INDEX", "observe 0 0 0 1 0 1 = INDEX");
        look(1, "nets without points", "parts 0 0 = 0", "parts 4 2 = 0", "spare 0 0 = 0", "spare 4 2 = 0",
                "sumTop 0 0 = 0", "sumBottom 0 0 = 1", "sumTop 4 2 = 0", "sumBottom 4 2 = 1", "worst 0 0 = NONE",
                "worst 4 2 = NONE", "clean 0 0 0 = 0", "clean 4 2 9999 = 0");
        look(1, "no observations", "mask 0 true = INDEX", "isInUse 0 = INDEX", "residualTop 0 = INDEX",
                "residualBottom 0 = INDEX", "isNeeded 0 = INDEX", "dropTop 0 = INDEX", "dropBottom 0 = INDEX",
                "masked = 0", "usedShare = ARITHMETIC", "meanTold = ARITHMETIC");
        look(1, "no versions and no deeds", "epochOf 0 = INDEX", "published 0 0 0 = INDEX",
                "publishedTop 0 0 0 = INDEX", "publishedBottom 0 0 0 = INDEX", "rests 0 0 = INDEX",
                "isFresh 0 = INDEX", "movedTop 0 0 0 0 = INDEX", "movedBottom 0 0 0 0 = INDEX",
                "moved 0 0 0 0 = INDEX", "corner 0 -1 0 0 = INDEX", "placeOf 0 0 0 0 = INDEX", "area 0 0 = INDEX",
                "yields 0 0 = INDEX", "isSound = true");
        look(1, "each first number is 0", "addPoint = 0", "addPoint = 1", "observe 4 2 0 1 1 1 = 0",
                "publish 4 = 0", "deed = 0", "corner 0 -1 0 0 = 1");
    }

    private static void addPoint() {
        look(2, "at most 6 points", "addPoint = 0", "addPoint = 1", "addPoint = 2", "addPoint = 3", "addPoint = 4",
                "addPoint = 5", "addPoint = STATE", "addPoint = STATE");
        look(2, "the sixth is there, and no seventh", "6x addPoint", "hangs 0 0 5 = false", "hangs 0 0 6 = INDEX",
                "addPoint = STATE", "hangs 0 0 5 = false", "hangs 0 0 6 = INDEX", "parts 0 0 = 6");
        look(2, "there is no point ahead of the call", "hangs 0 0 0 = INDEX", "addPoint = 0", "hangs 0 0 0 = false",
                "hangs 0 0 1 = INDEX");
        look(2, "no room comes of releasing and masking", "6x addPoint", "fix 5 0 1", "observe 0 0 5 0 1 1",
                "release 5 0", "mask 0 true", "addPoint = STATE");
    }

    private static void fix() {
        look(3, "from -4999 to 4999", "addPoint", "fix 0 0 4999 = false", "top 0 0 0 = 4999",
                "fix 0 0 5000 = ARGUMENT", "fix 0 0 MAX = ARGUMENT", "top 0 0 0 = 4999", "fix 0 0 -4999 = true",
                "top 0 0 0 = -4999", "fix 0 0 -5000 = ARGUMENT", "fix 0 0 MIN = ARGUMENT", "top 0 0 0 = -4999",
                "fix 0 0 0 = true", "top 0 0 0 = 0");
        look(3, "the axes 0, 1 and 2", "addPoint", "fix 0 0 1 = false", "fix 0 1 2 = false", "fix 0 2 3 = false",
                "fix 0 -1 4 = INDEX", "fix 0 3 4 = INDEX", "fix 0 MIN 4 = INDEX", "fix 0 MAX 4 = INDEX",
                "top 0 0 0 = 1", "top 0 1 0 = 2", "top 0 2 0 = 3");
        look(3, "such a point", "2x addPoint", "fix 0 0 1 = false", "fix 1 0 2 = false", "fix -1 0 3 = INDEX",
                "fix 2 0 3 = INDEX", "fix MIN 0 3 = INDEX", "fix MAX 0 3 = INDEX");
        look(3, "the last of 6 points", "6x addPoint", "fix 5 2 7 = false", "fix 6 2 7 = INDEX", "fix 5 2 8 = true");
        look(3, "whether it was fixed, each axis by itself", "2x addPoint", "fix 0 0 9 = false", "fix 0 0 9 = true",
                "fix 0 1 9 = false", "fix 0 2 9 = false", "fix 1 0 9 = false", "release 0 0 = 9",
                "fix 0 0 9 = false", "fix 0 0 9 = true");
        look(3, "what is refused does not fix", "addPoint", "fix 0 0 5000 = ARGUMENT", "release 0 0 = NONE",
                "fix 0 0 -5000 = ARGUMENT", "fix 0 0 4 = false");
        look(3, "a point joined to another one has no coordinate of its own", "2x addPoint", "fix 0 0 10",
                "observe 0 0 0 1 5 1", "top 0 0 1 = 15", "fix 1 0 -7 = false", "top 0 0 1 = -7");
        look(3, "the index ahead of the range", "addPoint", "fix 1 0 5000 = INDEX", "fix -1 0 -5000 = INDEX",
                "fix 0 3 5000 = INDEX", "fix 0 -1 MIN = INDEX", "fix 1 3 5000 = INDEX", "fix 0 0 5000 = ARGUMENT");
    }

    private static void release() {
        look(4, "the coordinate, at its bounds", "addPoint", "fix 0 0 4999", "release 0 0 = 4999", "fix 0 1 -4999",
                "release 0 1 = -4999", "fix 0 2 0", "release 0 2 = 0");
        look(4, "the coordinate told last", "addPoint", "fix 0 0 3; fix 0 0 -8", "release 0 0 = -8");
        look(4, "such a point or axis", "2x addPoint", "fix 0 0 1; fix 1 2 2", "release -1 0 = INDEX",
                "release 2 0 = INDEX", "release MIN 0 = INDEX", "release MAX 0 = INDEX", "release 0 -1 = INDEX",
                "release 0 3 = INDEX", "release 0 MIN = INDEX", "release 0 MAX = INDEX", "release 1 2 = 2",
                "release 0 0 = 1");
        look(4, "it is not fixed", "2x addPoint", "release 0 0 = NONE", "fix 0 0 5", "release 0 1 = NONE",
                "release 0 2 = NONE", "release 1 0 = NONE", "release 0 0 = 5", "release 0 0 = NONE");
        look(4, "a point that hangs on another one is not fixed", "2x addPoint", "fix 0 0 5", "observe 0 0 0 1 1 1",
                "release 1 0 = NONE", "hangs 0 0 1 = true");
        look(4, "what is fixed no longer does not hang", "2x addPoint", "fix 0 0 5", "observe 0 0 0 1 1 1",
                "hangs 0 0 1 = true", "release 0 0 = 5", "hangs 0 0 0 = false", "hangs 0 0 1 = false");
        look(4, "the index ahead of what is not fixed", "addPoint", "release 1 0 = INDEX", "release 0 3 = INDEX",
                "release 0 0 = NONE");
        look(4, "the last of 6 points", "6x addPoint", "fix 5 2 -1", "release 6 2 = INDEX", "release 5 2 = -1");
    }

    private static void observeIndexes() {
        look(5, "the epochs 0 to 4", "2x addPoint", "observe 0 0 0 1 1 1 = 0", "observe 4 0 0 1 1 1 = 1",
                "observe -1 0 0 1 1 1 = INDEX", "observe 5 0 0 1 1 1 = INDEX", "observe MIN 0 0 1 1 1 = INDEX",
                "observe MAX 0 0 1 1 1 = INDEX", "observe 3 0 0 1 1 1 = 2");
        look(5, "the axes 0 to 2", "2x addPoint", "observe 0 0 0 1 1 1 = 0", "observe 0 2 0 1 1 1 = 1",
                "observe 0 -1 0 1 1 1 = INDEX", "observe 0 3 0 1 1 1 = INDEX", "observe 0 MIN 0 1 1 1 = INDEX",
                "observe 0 MAX 0 1 1 1 = INDEX", "observe 0 1 0 1 1 1 = 2");
        look(5, "such a point, for either", "2x addPoint", "observe 0 0 2 1 1 1 = INDEX",
                "observe 0 0 1 2 1 1 = INDEX", "observe 0 0 -1 1 1 1 = INDEX", "observe 0 0 1 -1 1 1 = INDEX",
                "observe 0 0 MIN 1 1 1 = INDEX", "observe 0 0 1 MIN 1 1 = INDEX", "observe 0 0 MAX 1 1 1 = INDEX",
                "observe 0 0 1 MAX 1 1 = INDEX", "observe 0 0 1 0 1 1 = 0", "observe 0 0 0 1 1 1 = 1");
        look(5, "a single point has no other one", "addPoint", "observe 0 0 0 1 1 1 = INDEX",
                "observe 0 0 1 0 1 1 = INDEX", "observe 0 0 0 0 1 1 = ARGUMENT", "addPoint",
                "observe 0 0 0 1 1 1 = 0");
        look(5, "the last of 6 points", "6x addPoint", "observe 0 0 5 0 1 1 = 0", "observe 0 0 0 5 1 1 = 1",
                "observe 0 0 6 0 1 1 = INDEX", "observe 0 0 0 6 1 1 = INDEX");
    }

    private static void observeNumbers() {
        look(5, "both points are the same", "6x addPoint", "observe 0 0 0 0 1 1 = ARGUMENT",
                "observe 0 0 5 5 1 1 = ARGUMENT", "observe 0 0 5 4 1 1 = 0");
        look(5, "from -999 to 999", "2x addPoint", "fix 0 0 0; fix 0 1 0", "observe 0 0 0 1 999 1 = 0",
                "top 0 0 1 = 999", "observe 0 1 0 1 -999 1 = 1", "top 0 1 1 = -999",
                "observe 0 0 0 1 1000 1 = ARGUMENT", "observe 0 0 0 1 -1000 1 = ARGUMENT",
                "observe 0 0 0 1 MAX 1 = ARGUMENT", "observe 0 0 0 1 MIN 1 = ARGUMENT", "observe 0 0 0 1 0 1 = 2");
        look(5, "a weight of 1 or 2", "2x addPoint", "observe 0 0 0 1 1 0 = ARGUMENT", "observe 0 0 0 1 1 1 = 0",
                "observe 0 0 0 1 1 2 = 1", "observe 0 0 0 1 1 3 = ARGUMENT", "observe 0 0 0 1 1 -1 = ARGUMENT",
                "observe 0 0 0 1 1 MIN = ARGUMENT", "observe 0 0 0 1 1 MAX = ARGUMENT");
        look(5, "to less from", "2x addPoint", "fix 0 0 10", "observe 0 0 0 1 3 1 = 0", "top 0 0 1 = 13",
                "observe 1 0 1 0 3 1 = 1", "top 1 0 1 = 7");
    }

    private static void observeLimits() {
        look(5, "at most 10 of one epoch and one axis", "2x addPoint", "9x observe 2 1 0 1 5 1",
                "observe 2 1 1 0 5 1 = 9", "observe 2 1 0 1 5 1 = STATE", "observe 2 0 0 1 5 1 = 10",
                "observe 2 2 0 1 5 1 = 11", "observe 1 1 0 1 5 1 = 12", "observe 3 1 0 1 5 1 = 13",
                "observe 2 1 0 1 5 1 = STATE");
        look(5, "at most 60, of any epoch and axis", "2x addPoint", FIFTY, "9x observe 0 1 0 1 5 1",
                "observe 4 2 0 1 5 1 = 59", "observe 4 2 0 1 5 1 = STATE", "observe 0 1 0 1 5 1 = STATE",
                "observe 1 1 0 1 5 1 = STATE", "mask 59 true = false", "mask 60 true = INDEX");
        look(5, "the 60th may be the tenth of its net", "2x addPoint", FIFTY, "9x observe 4 2 0 1 5 1",
                "observe 4 2 0 1 5 1 = 59", "observe 4 2 0 1 5 1 = STATE", "isInUse 59 = false",
                "isInUse 60 = INDEX");
        look(5, "a masked one keeps its place among 10", "2x addPoint", "10x observe 0 0 0 1 5 1", "mask 0 true",
                "mask 9 true", "observe 0 0 0 1 5 1 = STATE");
        look(5, "a masked one keeps its place among 60", "2x addPoint", FIFTY, "10x observe 0 1 0 1 5 1",
                "mask 0 true", "mask 59 true", "observe 4 2 0 1 5 1 = STATE");
        look(5, "a cleaned one keeps its place", "2x addPoint", "fix 0 0 0; fix 1 0 0", "9x observe 0 0 0 1 0 1",
                "observe 0 0 0 1 1 1 = 9", "clean 0 0 0 = 1", "observe 0 0 0 1 0 1 = STATE");
    }

    private static void observeOrder() {
        look(5, "the index ahead of the argument", "2x addPoint", "observe 5 0 0 0 0 1 = INDEX",
                "observe 0 3 0 1 1000 1 = INDEX", "observe 0 0 2 1 0 3 = INDEX", "observe 0 0 1 2 -1000 0 = INDEX",
                "observe 0 0 2 2 0 1 = INDEX", "observe 0 0 -1 -1 0 1 = INDEX", "observe -1 -1 -1 -1 1000 0 = INDEX",
                "observe 0 0 1 1 0 1 = ARGUMENT");
        look(5, "the index ahead of the state", "2x addPoint", "10x observe 0 0 0 1 5 1",
                "observe 0 0 2 1 5 1 = INDEX", "observe 0 0 1 -1 5 1 = INDEX", "observe 0 0 0 1 5 1 = STATE");
        look(5, "the argument ahead of the state", "2x addPoint", "10x observe 0 0 0 1 5 1",
                "observe 0 0 1 1 5 1 = ARGUMENT", "observe 0 0 0 1 1000 1 = ARGUMENT",
                "observe 0 0 0 1 -1000 1 = ARGUMENT", "observe 0 0 0 1 5 0 = ARGUMENT",
                "observe 0 0 0 1 5 3 = ARGUMENT", "observe 0 0 0 1 5 1 = STATE");
        look(5, "the first of three", "2x addPoint", FIFTY, "10x observe 0 1 0 1 5 1", "observe 5 0 0 0 1000 3 = INDEX",
                "observe 0 0 2 2 1000 3 = INDEX", "observe 4 2 0 0 1000 3 = ARGUMENT", "observe 4 2 0 1 0 1 = STATE");
    }

    private static void mask() {
        look(6, "such an observation", "2x addPoint", "3x observe 0 0 0 1 5 1", "mask -1 true = INDEX",
                "mask 3 true = INDEX", "mask MIN true = INDEX", "mask MAX true = INDEX", "mask 3 false = INDEX",
                "mask 0 true = false", "mask 2 true = false", "masked = 2");
        look(6, "the first one", "2x addPoint", "mask 0 true = INDEX", "observe 0 0 0 1 5 1", "mask 0 true = false",
                "mask 1 true = INDEX");
        look(6, "whether it was", "2x addPoint", "observe 0 0 0 1 5 1", "mask 0 false = false",
                "mask 0 true = false", "mask 0 true = true", "mask 0 false = true", "mask 0 false = false",
                "masked = 0");
        look(6, "it counts for nothing", "3x addPoint", "fix 0 0 0", "2x observe 0 0 0 1 4 1", "observe 0 0 0 1 7 2",
                "observe 0 0 1 2 1 1", "top 0 0 1 = 11; bottom 0 0 1 = 2", "mask 2 true", "top 0 0 1 = 4",
                "bottom 0 0 1 = 1", "spare 0 0 = 1", "isInUse 2 = false", "mask 3 true", "hangs 0 0 2 = false",
                "parts 0 0 = 2", "mask 2 false; mask 3 false", "top 0 0 1 = 11", "spare 0 0 = 2", "parts 0 0 = 1");
        look(6, "all of a net", "2x addPoint", "fix 0 0 3", "2x observe 0 0 0 1 4 1", "mask 0 true; mask 1 true",
                "hangs 0 0 1 = false", "hangs 0 0 0 = true", "sumTop 0 0 = 0", "sumBottom 0 0 = 1", "spare 0 0 = 0");
    }

    private static void isInUse() {
        look(7, "such an observation", "2x addPoint", "fix 0 0 0", "2x observe 0 0 0 1 5 1", "isInUse -1 = INDEX",
                "isInUse 2 = INDEX", "isInUse MIN = INDEX", "isInUse MAX = INDEX", "isInUse 0 = true",
                "isInUse 1 = true");
        look(7, "the last of 60", "2x addPoint", "fix 1 2 0", FIFTY, "10x observe 4 2 0 1 5 1", "isInUse 59 = true",
                "isInUse 49 = false", "isInUse 60 = INDEX");
        look(7, "between points that hang, also both fixed", "3x addPoint", "observe 0 0 0 1 5 1", "isInUse 0 = false",
                "fix 2 0 0", "isInUse 0 = false", "fix 1 0 0", "isInUse 0 = true", "fix 0 0 0", "isInUse 0 = true",
                "release 1 0", "isInUse 0 = true", "release 0 0", "isInUse 0 = false");
        look(7, "its own axis and epoch", "2x addPoint", "fix 0 0 0", "observe 0 1 0 1 5 1", "observe 3 0 0 1 5 1",
                "isInUse 0 = false", "isInUse 1 = true");
        look(7, "not masked", "2x addPoint", "fix 0 0 0; fix 1 0 0", "observe 0 0 0 1 5 1", "mask 0 true",
                "isInUse 0 = false", "mask 0 false", "isInUse 0 = true");
    }

    private static void hangs() {
        look(8, "such an epoch", "addPoint", "fix 0 0 0", "hangs 0 0 0 = true", "hangs 4 0 0 = true",
                "hangs -1 0 0 = INDEX", "hangs 5 0 0 = INDEX", "hangs MIN 0 0 = INDEX", "hangs MAX 0 0 = INDEX");
        look(8, "such an axis", "addPoint", "fix 0 0 0; fix 0 2 0", "hangs 0 0 0 = true", "hangs 0 1 0 = false",
                "hangs 0 2 0 = true", "hangs 0 -1 0 = INDEX", "hangs 0 3 0 = INDEX", "hangs 0 MIN 0 = INDEX",
                "hangs 0 MAX 0 = INDEX");
        look(8, "such a point", "6x addPoint", "fix 5 0 0", "hangs 0 0 0 = false", "hangs 0 0 5 = true",
                "hangs 0 0 -1 = INDEX", "hangs 0 0 6 = INDEX", "hangs 0 0 MIN = INDEX", "hangs 0 0 MAX = INDEX");
        look(8, "a fixed one hangs, too, alone", "addPoint", "hangs 0 0 0 = false", "fix 0 0 0",
                "hangs 0 0 0 = true", "release 0 0", "hangs 0 0 0 = false");
        look(8, "joined over all others", "6x addPoint", "fix 0 0 0", "observe 0 0 1 0 1 1; observe 0 0 1 2 1 1",
                "observe 0 0 3 2 1 1; observe 0 0 3 4 1 1; observe 0 0 5 4 1 1", "hangs 0 0 5 = true", "mask 0 true",
                "hangs 0 0 1 = false", "hangs 0 0 5 = false", "hangs 0 0 0 = true", "mask 0 false; mask 2 true",
                "hangs 0 0 2 = true", "hangs 0 0 3 = false", "hangs 0 0 5 = false");
        look(8, "told in any order", "4x addPoint", "fix 3 0 0", "observe 0 0 0 1 1 1; observe 0 0 2 3 1 1",
                "hangs 0 0 0 = false", "observe 0 0 1 2 1 1", "hangs 0 0 0 = true");
        look(8, "a ring without a fixed point", "3x addPoint", "observe 0 0 0 1 1 1; observe 0 0 1 2 1 1",
                "observe 0 0 2 0 1 1", "hangs 0 0 0 = false", "hangs 0 0 2 = false", "fix 1 0 0",
                "hangs 0 0 0 = true", "hangs 0 0 2 = true");
    }

    private static void parts() {
        look(9, "such an epoch or axis", "addPoint", "parts 0 0 = 1", "parts 4 2 = 1", "parts -1 0 = INDEX",
                "parts 5 0 = INDEX", "parts 0 -1 = INDEX", "parts 0 3 = INDEX", "parts MIN 0 = INDEX",
                "parts MAX 0 = INDEX", "parts 0 MIN = INDEX", "parts 0 MAX = INDEX");
        look(9, "a point alone is one, too", "parts 0 0 = 0", "addPoint", "parts 0 0 = 1", "5x addPoint",
                "parts 0 0 = 6", "fix 0 0 1; fix 1 0 1", "parts 0 0 = 6");
        look(9, "down to one", "6x addPoint", "observe 0 0 0 1 1 1; observe 0 0 2 3 1 1; observe 0 0 4 5 1 1",
                "parts 0 0 = 3", "observe 0 0 5 0 1 1", "parts 0 0 = 2", "observe 0 0 1 2 1 1", "parts 0 0 = 1",
                "observe 0 0 3 4 1 1", "parts 0 0 = 1", "observe 0 0 4 3 1 1", "parts 0 0 = 1");
        look(9, "not joined by what is masked", "2x addPoint", "observe 0 0 0 1 1 1", "parts 0 0 = 1", "mask 0 true",
                "parts 0 0 = 2", "mask 0 false", "parts 0 0 = 1");
        look(9, "each epoch and axis by itself", "2x addPoint", "observe 1 1 0 1 1 1", "parts 1 1 = 1",
                "parts 0 1 = 2", "parts 2 1 = 2", "parts 1 0 = 2", "parts 1 2 = 2");
    }

    private static void spare() {
        look(10, "such an epoch or axis", "addPoint", "spare 0 0 = 0", "spare 4 2 = 0", "spare -1 0 = INDEX",
                "spare 5 0 = INDEX", "spare 0 -1 = INDEX", "spare 0 3 = INDEX", "spare MIN 0 = INDEX",
                "spare MAX 0 = INDEX", "spare 0 MIN = INDEX", "spare 0 MAX = INDEX");
        look(10, "none in a chain, one in a ring", "6x addPoint", "fix 0 0 0", "observe 0 0 0 1 1 1; observe 0 0 1 2 1 1",
                "observe 0 0 2 3 1 1; observe 0 0 3 4 1 1; observe 0 0 4 5 1 1", "spare 0 0 = 0",
                "observe 0 0 5 0 1 1", "spare 0 0 = 1", "fix 3 0 0", "spare 0 0 = 2");
        look(10, "none without a fixed point", "2x addPoint", "10x observe 0 0 0 1 1 1", "spare 0 0 = 0", "fix 1 0 1",
                "spare 0 0 = 9", "fix 0 0 1", "spare 0 0 = 10", "mask 0 true", "spare 0 0 = 9", "release 0 0",
                "spare 0 0 = 8");
        look(10, "fixed points alone", "6x addPoint", "fix 0 0 0; fix 1 0 0; fix 2 0 0", "spare 0 0 = 0");
    }
}
