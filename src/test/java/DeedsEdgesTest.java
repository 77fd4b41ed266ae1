/** The boundary cases of the promises 35 to 39: deeds, corners, places, areas, and corners that yield. */
public final class DeedsEdgesTest {
    private static final Edges EDGES = new Edges();
    // The point 0 at 10, 20; the point 1 at 110, 20; the point 2 along the axis 0 alone; the point 3 along the axes
    // 1 and 2; the point 4 nowhere.
    private static final String PLACES = "5x addPoint; fix 0 0 10; fix 0 1 20; fix 1 0 110; fix 1 1 20; fix 2 0 55;"
            + "fix 3 1 66; fix 3 2 77; publish 0";
    private static final String ALL_DEEDS = "8x deed";
    private static final String ALL_VERSIONS = "publish 0; publish 1; publish 2; publish 3; publish 4; publish 0;"
            + "publish 1; publish 2; publish 3; publish 4; publish 0";

    public static void main(String[] args) {
        deed();
        wrongCorner();
        cornerNumbers();
        cornerOrder();
        wrongPlaces();
        noPlaces();
        monuments();
        steps();
        wrongAreas();
        areas();
        wrongYields();
        yields();
        yieldsBySteps();
        EDGES.end();
    }

    private static void look(int promise, String sentence, String... texts) {
        EDGES.look(promise, sentence, texts);
    }

    private static void deed() {
        look(35, "at most 8 deeds", "deed = 0", "deed = 1", "deed = 2", "deed = 3", "deed = 4", "deed = 5", "deed = 6",
                "deed = 7", "deed = STATE", "deed = STATE", "corner 7 -1 0 0 = 1", "corner 8 -1 0 0 = INDEX");
        look(35, "without corners", PLACES, "deed", "placeOf 0 0 0 0 = INDEX", "area 0 0 = NONE", "yields 0 0 = NONE",
                "corner 0 -1 0 0 = 1");
    }

    private static void wrongCorner() {
        look(36, "such a deed", "corner 0 -1 0 0 = INDEX", "deed", "corner 0 -1 0 0 = 1", "corner 1 -1 0 0 = INDEX",
                "corner -1 -1 0 0 = INDEX", "corner MIN -1 0 0 = INDEX", "corner MAX -1 0 0 = INDEX");
        look(36, "such a point, or -1", "deed", "corner 0 -1 0 0 = 1", "corner 0 -2 0 0 = INDEX",
                "corner 0 0 0 0 = INDEX", "addPoint", "corner 0 0 0 0 = 2", "corner 0 1 0 0 = INDEX",
                "corner 0 MIN 0 0 = INDEX", "corner 0 MAX 0 0 = INDEX", "5x addPoint", "corner 0 5 0 0 = 3",
                "corner 0 6 0 0 = INDEX");
        look(36, "a step from -999 to 999", "deed", "corner 0 -1 999 -999 = 1", "corner 0 -1 -999 999 = 2",
                "corner 0 -1 1000 0 = ARGUMENT", "corner 0 -1 -1000 0 = ARGUMENT", "corner 0 -1 0 1000 = ARGUMENT",
                "corner 0 -1 0 -1000 = ARGUMENT", "corner 0 -1 MAX 0 = ARGUMENT", "corner 0 -1 MIN 0 = ARGUMENT",
                "corner 0 -1 0 MAX = ARGUMENT", "corner 0 -1 0 MIN = ARGUMENT", "corner 0 -1 0 0 = 3");
        look(36, "a step out of range of the first corner, too", "addPoint; deed", "corner 0 0 1000 0 = ARGUMENT",
                "corner 0 0 0 -1000 = ARGUMENT", "corner 0 0 999 -999 = 1");
    }

    private static void cornerNumbers() {
        look(36, "at most 10 corners", "2x deed", "corner 0 -1 0 0 = 1", "7x corner 0 -1 1 1", "corner 0 -1 1 1 = 9",
                "corner 0 -1 1 1 = 10", "corner 0 -1 1 1 = STATE", "corner 0 -1 1 1 = STATE", "corner 1 -1 1 1 = 1");
        look(36, "10 corners of each of 8 deeds", PLACES, ALL_DEEDS, "10x corner 0 0 1 1; 10x corner 1 0 1 1",
                "10x corner 2 0 1 1; 10x corner 3 0 1 1; 10x corner 4 0 1 1; 10x corner 5 0 1 1; 10x corner 6 0 1 1",
                "corner 7 1 1 1; 8x corner 7 -1 1 2", "corner 7 -1 1 3 = 10", "corner 7 -1 1 1 = STATE",
                "corner 0 -1 1 1 = STATE", "placeOf 7 0 9 0 = 119", "placeOf 7 0 9 1 = 39", "placeOf 0 0 9 0 = 10",
                "placeOf 6 0 9 1 = 20");
    }

    private static void cornerOrder() {
        look(36, "the index ahead of the argument", "deed", "corner 1 -1 1000 0 = INDEX", "corner 0 0 0 1000 = INDEX",
                "corner 0 -2 -1000 0 = INDEX", "corner -1 -2 0 -1000 = INDEX", "corner 0 -1 -1000 0 = ARGUMENT");
        look(36, "the index ahead of the state", "deed; 10x corner 0 -1 1 1", "corner 0 0 1 1 = INDEX",
                "corner 0 -2 1 1 = INDEX", "corner 0 -1 1 1 = STATE");
        look(36, "the argument ahead of the state", "deed; 10x corner 0 -1 1 1", "corner 0 -1 1000 1 = ARGUMENT",
                "corner 0 -1 -1000 1 = ARGUMENT", "corner 0 -1 1 1000 = ARGUMENT", "corner 0 -1 1 -1000 = ARGUMENT",
                "corner 0 -1 1 1 = STATE");
        look(36, "the first of three", "deed; 10x corner 0 -1 1 1", "corner 0 0 1000 1000 = INDEX",
                "corner 0 -1 1000 1000 = ARGUMENT", "corner 0 -1 999 999 = STATE");
    }

    private static void wrongPlaces() {
        look(37, "such a deed", PLACES, "placeOf 0 0 0 0 = INDEX", "deed; corner 0 0 0 0", "placeOf 0 0 0 0 = 10",
                "placeOf 1 0 0 0 = INDEX", "placeOf -1 0 0 0 = INDEX", "placeOf MIN 0 0 0 = INDEX",
                "placeOf MAX 0 0 0 = INDEX");
        look(37, "the last of 8 deeds and of 12 versions", PLACES, ALL_DEEDS, ALL_VERSIONS, "corner 7 1 0 0",
                "placeOf 7 11 0 0 = 110", "placeOf 8 11 0 0 = INDEX", "placeOf 7 12 0 0 = INDEX");
        look(37, "such a version", "addPoint; fix 0 0 1; fix 0 1 2; deed; corner 0 0 0 0", "placeOf 0 0 0 0 = INDEX",
                "publish 4", "placeOf 0 0 0 0 = 1", "placeOf 0 1 0 0 = INDEX", "placeOf 0 -1 0 0 = INDEX",
                "placeOf 0 MIN 0 0 = INDEX", "placeOf 0 MAX 0 0 = INDEX");
        look(37, "such a corner, from 0", PLACES, "deed", "placeOf 0 0 0 0 = INDEX", "corner 0 0 0 0",
                "placeOf 0 0 0 0 = 10", "placeOf 0 0 1 0 = INDEX", "placeOf 0 0 -1 0 = INDEX",
                "placeOf 0 0 MIN 0 = INDEX", "placeOf 0 0 MAX 0 = INDEX", "9x corner 0 -1 1 1", "placeOf 0 0 9 0 = 19",
                "placeOf 0 0 10 0 = INDEX");
        look(37, "the axis 0 or 1", PLACES, "deed; corner 0 0 0 0", "placeOf 0 0 0 0 = 10", "placeOf 0 0 0 1 = 20",
                "placeOf 0 0 0 2 = INDEX", "placeOf 0 0 0 -1 = INDEX", "placeOf 0 0 0 MIN = INDEX",
                "placeOf 0 0 0 MAX = INDEX");
    }

    private static void noPlaces() {
        look(37, "the first corner has no monument", PLACES, "deed; corner 0 -1 0 0; corner 0 0 0 0",
                "placeOf 0 0 0 0 = NONE", "placeOf 0 0 1 0 = NONE", "placeOf 0 0 1 1 = NONE");
        look(37, "the monument of the first corner has one coordinate, or none", PLACES,
                "3x deed; corner 0 2 0 0; corner 1 3 0 0; corner 2 4 0 0", "placeOf 0 0 0 0 = NONE",
                "placeOf 0 0 0 1 = NONE", "placeOf 1 0 0 0 = NONE", "placeOf 1 0 0 1 = NONE", "placeOf 2 0 0 0 = NONE",
                "fix 2 1 1; fix 3 0 2; fix 4 0 3; publish 3", "placeOf 0 0 0 0 = NONE", "placeOf 0 1 0 0 = 55",
                "placeOf 0 1 0 1 = 1", "placeOf 1 1 0 0 = 2", "placeOf 1 1 0 1 = 66", "placeOf 2 1 0 0 = NONE");
        look(37, "the index ahead of no places", PLACES, "deed; corner 0 -1 0 0", "placeOf 1 0 0 0 = INDEX",
                "placeOf 0 1 0 0 = INDEX", "placeOf 0 0 1 0 = INDEX", "placeOf 0 0 -1 0 = INDEX",
                "placeOf 0 0 0 2 = INDEX", "placeOf 0 0 0 -1 = INDEX", "placeOf 0 0 0 0 = NONE");
        look(37, "a point newer than the version", PLACES, "addPoint; fix 5 0 1; fix 5 1 1; deed; corner 0 5 0 0",
                "placeOf 0 0 0 0 = NONE", "publish 0", "placeOf 0 1 0 0 = 1", "placeOf 0 0 0 0 = NONE");
    }

    private static void monuments() {
        look(37, "both rounded coordinates", PLACES, "deed; corner 0 0 0 0; corner 0 2 1 2; corner 0 3 3 4",
                "corner 0 4 5 6; corner 0 1 7 8", "placeOf 0 0 1 0 = 11; placeOf 0 0 1 1 = 22",
                "placeOf 0 0 2 0 = 14; placeOf 0 0 2 1 = 26", "placeOf 0 0 3 0 = 19; placeOf 0 0 3 1 = 32",
                "placeOf 0 0 4 0 = 110; placeOf 0 0 4 1 = 20");
        look(37, "halves up", "2x addPoint; fix 0 0 0; fix 0 1 0", "observe 0 0 0 1 4 1; observe 0 0 0 1 5 1",
                "observe 0 1 0 1 -4 1; observe 0 1 0 1 -5 1; publish 0; deed; corner 0 1 9 9",
                "placeOf 0 0 0 0 = 5; placeOf 0 0 0 1 = -4");
        look(37, "at the edges", "2x addPoint; fix 0 0 4999; fix 0 1 -4999; publish 0; deed; corner 0 0 0 0",
                "9x corner 0 -1 999 -999", "placeOf 0 0 0 0 = 4999; placeOf 0 0 0 1 = -4999",
                "placeOf 0 0 9 0 = 13990; placeOf 0 0 9 1 = -13990");
        look(37, "in a version, not now", PLACES, "deed; corner 0 0 0 0; corner 0 1 5 5", "fix 1 0 300; release 0 0",
                "placeOf 0 0 1 0 = 110; placeOf 0 0 0 0 = 10", "publish 0", "placeOf 0 1 0 0 = NONE",
                "placeOf 0 0 1 0 = 110");
    }

    private static void steps() {
        look(37, "of no meaning for the first one", PLACES, "deed; corner 0 0 999 -999", "placeOf 0 0 0 0 = 10",
                "placeOf 0 0 0 1 = 20");
        look(37, "of no meaning at a monument", PLACES, "deed; corner 0 0 0 0; corner 0 1 999 -999; corner 0 -1 0 0",
                "placeOf 0 0 1 0 = 110; placeOf 0 0 1 1 = 20", "placeOf 0 0 2 0 = 110; placeOf 0 0 2 1 = 20");
        look(37, "from the corner ahead, as this one is", PLACES, "deed; corner 0 0 0 0; corner 0 -1 999 -999",
                "corner 0 -1 -999 999; corner 0 -1 1 0; corner 0 1 0 0; corner 0 4 0 -1",
                "placeOf 0 0 1 0 = 1009; placeOf 0 0 1 1 = -979", "placeOf 0 0 2 0 = 10; placeOf 0 0 2 1 = 20",
                "placeOf 0 0 3 0 = 11; placeOf 0 0 3 1 = 20", "placeOf 0 0 5 0 = 110; placeOf 0 0 5 1 = 19");
    }

    private static void wrongAreas() {
        look(38, "such a deed", PLACES, "area 0 0 = INDEX", "deed; corner 0 0 0 0", "area 0 0 = 0", "area 1 0 = INDEX",
                "area -1 0 = INDEX", "area MIN 0 = INDEX", "area MAX 0 = INDEX");
        look(38, "such a version", PLACES, "deed; corner 0 0 0 0", "area 0 0 = 0", "area 0 1 = INDEX",
                "area 0 -1 = INDEX", "area 0 MIN = INDEX", "area 0 MAX = INDEX");
        look(38, "no corners, or no places", PLACES, "4x deed; corner 1 -1 0 0; corner 1 0 0 0; corner 2 2 0 0",
                "area 0 0 = NONE", "area 1 0 = NONE", "area 2 0 = NONE", "corner 0 0 0 0", "area 0 0 = 0",
                "area 3 0 = NONE");
        look(38, "the index ahead of no corners and no places", PLACES, "2x deed; corner 1 -1 0 0", "area 2 0 = INDEX",
                "area 0 1 = INDEX", "area 0 -1 = INDEX", "area 1 1 = INDEX", "area 0 0 = NONE", "area 1 0 = NONE");
        look(38, "the last of 8 deeds and of 12 versions", PLACES, ALL_DEEDS, ALL_VERSIONS,
                "corner 7 1 0 0; corner 7 -1 1 0; corner 7 -1 0 1", "area 7 11 = 1", "area 8 11 = INDEX",
                "area 7 12 = INDEX");
    }

    private static void areas() {
        look(38, "one corner, and two", PLACES, "deed; corner 0 0 0 0", "area 0 0 = 0", "corner 0 1 0 0",
                "area 0 0 = 0", "corner 0 -1 0 1", "area 0 0 = 100", "corner 0 -1 0 -1", "area 0 0 = 0");
        look(38, "without a sign", PLACES, "2x deed; corner 0 0 0 0; corner 0 -1 3 0; corner 0 -1 0 5",
                "corner 1 0 0 0; corner 1 -1 0 5; corner 1 -1 3 0", "area 0 0 = 15", "area 1 0 = 15");
        look(38, "the ring of all corners", PLACES, "deed; corner 0 0 0 0; corner 0 -1 10 0; corner 0 -1 0 10",
                "corner 0 -1 -10 0", "area 0 0 = 200", "corner 0 -1 0 -5; corner 0 -1 5 0", "area 0 0 = 175");
        // Over itself: one half is told the other way round.
        look(38, "a ring that crosses itself", PLACES, "deed; corner 0 0 0 0; corner 0 -1 10 10; corner 0 -1 0 -10",
                "corner 0 -1 -10 10", "area 0 0 = 0");
        look(38, "the greatest ring", "4x addPoint; fix 0 0 -4999; fix 0 1 -4999; fix 1 0 4999; fix 1 1 -4999",
                "fix 2 0 4999; fix 2 1 4999; fix 3 0 -4999; fix 3 1 4999; publish 0; deed",
                "corner 0 0 0 0; corner 0 1 0 0; corner 0 2 0 0; corner 0 3 0 0", "area 0 0 = 199920008");
        look(38, "10 corners", PLACES, "deed; corner 0 0 0 0; 4x corner 0 -1 999 0; corner 0 -1 0 999",
                "4x corner 0 -1 -999 0", "area 0 0 = 7984008");
    }

    private static void wrongYields() {
        look(39, "such a deed", PLACES, "yields 0 0 = INDEX", "deed; corner 0 0 0 0", "yields 0 0 = 0",
                "yields 1 0 = INDEX", "yields -1 0 = INDEX", "yields MIN 0 = INDEX", "yields MAX 0 = INDEX");
        look(39, "such a version", PLACES, "deed; corner 0 0 0 0", "yields 0 0 = 0", "yields 0 1 = INDEX",
                "yields 0 -1 = INDEX", "yields 0 MIN = INDEX", "yields 0 MAX = INDEX");
        look(39, "no corners, or no places", PLACES, "4x deed; corner 1 -1 0 0; corner 1 0 0 0; corner 2 3 0 0",
                "yields 0 0 = NONE", "yields 1 0 = NONE", "yields 2 0 = NONE", "corner 0 0 0 0", "yields 0 0 = 0",
                "yields 3 0 = NONE");
        look(39, "the index ahead of no corners and no places", PLACES, "2x deed; corner 1 -1 0 0",
                "yields 2 0 = INDEX", "yields 0 1 = INDEX", "yields 0 -1 = INDEX", "yields 1 1 = INDEX",
                "yields 0 0 = NONE", "yields 1 0 = NONE");
        look(39, "the last of 8 deeds and of 12 versions", PLACES, ALL_DEEDS, ALL_VERSIONS,
                "corner 7 1 0 0; corner 7 0 0 0", "yields 7 11 = 1", "yields 8 11 = INDEX", "yields 7 12 = INDEX");
    }

    private static void yields() {
        look(39, "not the first one", PLACES, "deed; corner 0 0 999 999", "yields 0 0 = 0", "corner 0 1 999 999",
                "yields 0 0 = 1");
        look(39, "at its monument", PLACES, "deed; corner 0 0 0 0; corner 0 -1 999 999; corner 0 2 999 0",
                "corner 0 3 999 0; corner 0 4 999 0", "yields 0 0 = 0", "corner 0 1 0 0", "yields 0 0 = 1");
        look(39, "the monument has both coordinates in one version alone", PLACES, "deed; corner 0 0 0 0; corner 0 2 0 0",
                "yields 0 0 = 0", "fix 2 1 20; publish 0", "yields 0 0 = 0", "yields 0 1 = 1");
        look(39, "from where the corner ahead is, not from its own step", PLACES,
                "deed; corner 0 0 0 0; corner 0 1 0 0; corner 0 -1 -3 4; corner 0 0 -97 -4", "yields 0 0 = 1",
                "corner 0 1 94 0", "yields 0 0 = 2", "corner 0 0 -95 5", "yields 0 0 = 2");
        look(39, "9 of 10 corners", PLACES, "deed; corner 0 0 0 0", "9x corner 0 0 6 0", "yields 0 0 = 9");
        look(39, "none of 10 corners", PLACES, "deed; corner 0 0 0 0", "9x corner 0 0 5 -5", "yields 0 0 = 0");
    }

    private static void yieldsBySteps() {
        // From the point 0 to the point 1 it is 100 along the axis 0.
        String[] near = {"100 0", "105 0", "95 0", "100 5", "100 -5", "105 5", "95 -5", "105 -5", "95 5"};
        String[] far = {"106 0", "94 0", "100 6", "100 -6", "106 6", "94 -6", "106 5", "105 6", "-100 0", "999 -999"};
        for (String step : near) {
            look(39, "not more than 5: " + step, PLACES, "deed; corner 0 0 0 0; corner 0 1 " + step, "yields 0 0 = 0");
        }
        for (String step : far) {
            look(39, "more than 5: " + step, PLACES, "deed; corner 0 0 0 0; corner 0 1 " + step, "yields 0 0 = 1");
        }
        // From the point 0 to the point 1 it is -100 along the axis 1.
        String south = "2x addPoint; fix 0 0 10; fix 0 1 20; fix 1 0 10; fix 1 1 -80; publish 0";
        String[] nearSouth = {"0 -100", "0 -105", "0 -95", "5 -100", "-5 -100", "5 -105", "-5 -95"};
        String[] farSouth = {"0 -106", "0 -94", "6 -100", "-6 -100", "0 100", "0 0"};
        for (String step : nearSouth) {
            look(39, "not more than 5: " + step, south, "deed; corner 0 0 0 0; corner 0 1 " + step, "yields 0 0 = 0");
        }
        for (String step : farSouth) {
            look(39, "more than 5: " + step, south, "deed; corner 0 0 0 0; corner 0 1 " + step, "yields 0 0 = 1");
        }
    }
}
