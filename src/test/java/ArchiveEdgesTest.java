/** The boundary cases of the promises 25 to 34: versions, what they rest on, and points that moved. */
public final class ArchiveEdgesTest {
    private static final Edges EDGES = new Edges();
    private static final String ALL_VERSIONS = "publish 0; publish 1; publish 2; publish 3; publish 4; publish 0;"
            + "publish 1; publish 2; publish 3; publish 4; publish 0; publish 3";
    private static final String[] NAMES = {"published", "publishedTop", "publishedBottom"};

    public static void main(String[] args) {
        publish();
        epochOf();
        wrongCoordinates();
        noCoordinates();
        coordinates();
        neverChanges();
        rests();
        restsOn();
        isFresh();
        isFreshAgain();
        wrongMoves();
        moves();
        wrongMoved();
        moved();
        EDGES.end();
    }

    private static void look(int promise, String sentence, String... texts) {
        EDGES.look(promise, sentence, texts);
    }

    private static void publish() {
        look(25, "at most 12 versions", "publish 0 = 0", "publish 4 = 1", "publish 0 = 2", "publish 0 = 3",
                "publish 1 = 4", "publish 1 = 5", "publish 2 = 6", "publish 2 = 7", "publish 3 = 8", "publish 3 = 9",
                "publish 4 = 10", "publish 4 = 11", "publish 4 = STATE", "publish 0 = STATE");
        look(25, "the epochs 0 to 4", "publish -1 = INDEX", "publish 5 = INDEX", "publish MIN = INDEX",
                "publish MAX = INDEX", "publish 4 = 0", "publish 0 = 1");
        look(25, "the index ahead of the state", "addPoint; fix 0 0 0", ALL_VERSIONS, "publish 5 = INDEX",
                "publish -1 = INDEX", "publish 4 = STATE", "epochOf 11 = 3", "epochOf 12 = INDEX");
        look(25, "a land without points", "publish 2 = 0", "isFresh 0 = true", "published 0 0 0 = INDEX", "addPoint",
                "published 0 0 0 = NONE", "isFresh 0 = true", "fix 0 1 3", "isFresh 0 = false", "publish 2 = 1",
                "published 1 1 0 = 3", "published 0 1 0 = NONE");
    }

    private static void epochOf() {
        look(26, "such a version", "epochOf 0 = INDEX", "publish 4", "epochOf 0 = 4", "epochOf 1 = INDEX",
                "epochOf -1 = INDEX", "epochOf MIN = INDEX", "epochOf MAX = INDEX", "publish 0", "epochOf 1 = 0",
                "epochOf 0 = 4", "epochOf 2 = INDEX");
        look(26, "the last of 12", ALL_VERSIONS, "epochOf 0 = 0", "epochOf 4 = 4", "epochOf 9 = 4", "epochOf 10 = 0",
                "epochOf 11 = 3", "epochOf 12 = INDEX");
    }

    private static void wrongCoordinates() {
        String[] first = {"4999", "4999", "1"};
        String[] last = {"-4999", "-4999", "1"};
        for (int turn = 0; turn < NAMES.length; turn++) {
            String name = NAMES[turn];
            String made = "6x addPoint; fix 0 0 4999; fix 5 2 -4999";
            look(27 + turn, name + ", such a version", made, name + " 0 0 0 = INDEX", "publish 0",
                    name + " 0 0 0 = " + first[turn], name + " 1 0 0 = INDEX", name + " -1 0 0 = INDEX",
                    name + " MIN 0 0 = INDEX", name + " MAX 0 0 = INDEX");
            look(27 + turn, name + ", the last of 12 versions", made, ALL_VERSIONS,
                    name + " 11 2 5 = " + last[turn], name + " 12 2 5 = INDEX");
            look(27 + turn, name + ", such an axis", made, "publish 4", name + " 0 0 0 = " + first[turn],
                    name + " 0 2 5 = " + last[turn], name + " 0 -1 0 = INDEX", name + " 0 3 5 = INDEX",
                    name + " 0 MIN 0 = INDEX", name + " 0 MAX 0 = INDEX");
            look(27 + turn, name + ", such a point", made, "publish 2", name + " 0 0 0 = " + first[turn],
                    name + " 0 2 5 = " + last[turn], name + " 0 0 -1 = INDEX", name + " 0 0 6 = INDEX",
                    name + " 0 0 MIN = INDEX", name + " 0 0 MAX = INDEX");
            look(27 + turn, name + ", the index ahead of no coordinate", "addPoint; publish 0",
                    name + " 1 0 0 = INDEX", name + " 0 3 0 = INDEX", name + " 0 0 1 = INDEX", name + " 0 0 0 = NONE");
        }
    }

    private static void noCoordinates() {
        String[] want = {"15", "15", "1"};
        for (int turn = 0; turn < NAMES.length; turn++) {
            String name = NAMES[turn];
            look(27 + turn, name + ", a version that has none", "2x addPoint", "fix 0 1 10", "observe 1 1 0 1 5 1",
                    "publish 1; publish 0; mask 0 true; publish 1; mask 0 false", name + " 0 1 1 = " + want[turn],
                    name + " 1 1 1 = NONE", name + " 2 1 1 = NONE", name + " 0 0 1 = NONE", name + " 0 2 1 = NONE");
            look(27 + turn, name + ", a point newer than the version", "addPoint; fix 0 0 15; publish 0",
                    name + " 0 0 1 = INDEX", "addPoint", name + " 0 0 1 = NONE", "fix 1 0 15", name + " 0 0 1 = NONE",
                    "publish 0", name + " 1 0 1 = " + want[turn], name + " 0 0 1 = NONE",
                    name + " 0 0 0 = " + want[turn]);
        }
    }

    private static void coordinates() {
        look(27, "rounded, halves up", "2x addPoint", "fix 0 0 0; fix 0 1 0; fix 0 2 0",
                "observe 0 0 0 1 0 1; observe 0 0 0 1 1 1", "observe 0 1 0 1 0 1; observe 0 1 0 1 -1 1",
                "observe 0 2 0 1 -1 1; observe 0 2 0 1 -2 1", "publish 0", "published 0 0 1 = 1",
                "published 0 1 1 = 0", "published 0 2 1 = -1", "publishedTop 0 0 1 = 1; publishedBottom 0 0 1 = 2",
                "publishedTop 0 1 1 = -1; publishedBottom 0 1 1 = 2",
                "publishedTop 0 2 1 = -3; publishedBottom 0 2 1 = 2");
        look(27, "thirds", "2x addPoint", "fix 0 0 0", "observe 0 0 0 1 0 1; observe 0 0 0 1 1 2",
                "observe 1 0 0 1 0 2; observe 1 0 0 1 1 1", "observe 2 0 0 1 0 1; observe 2 0 0 1 -1 2",
                "publish 0; publish 1; publish 2", "published 0 0 1 = 1", "published 1 0 1 = 0",
                "published 2 0 1 = -1");
        look(28, "the greatest and the least coordinate", "6x addPoint", "fix 0 0 4999",
                "observe 0 0 0 1 999 1; observe 0 0 1 2 999 1; observe 0 0 2 3 999 1",
                "observe 0 0 3 4 999 1; observe 0 0 4 5 999 1", "publish 0", "publishedTop 0 0 5 = 9994", "release 0 0",
                "fix 5 0 -4999; publish 0", "publishedTop 1 0 0 = -9994", "publishedBottom 1 0 0 = 1");
        look(29, "nothing is 0 of 1", "2x addPoint", "fix 0 0 -3", "observe 0 0 0 1 3 2; publish 0",
                "publishedTop 0 0 1 = 0; publishedBottom 0 0 1 = 1", "published 0 0 1 = 0");
    }

    private static void neverChanges() {
        look(28, "it never changes", "2x addPoint", "fix 0 0 0", "observe 0 0 0 1 1 1; observe 0 0 0 1 2 1", "publish 0",
                "publishedTop 0 0 1 = 3; publishedBottom 0 0 1 = 2", "mask 0 true; fix 0 0 9; fix 1 1 4",
                "observe 0 0 0 1 50 2; publish 0; release 0 0; fix 1 0 -4999; publish 0",
                "publishedTop 0 0 1 = 3; publishedBottom 0 0 1 = 2", "publishedTop 0 0 0 = 0",
                "published 0 1 1 = NONE", "publishedTop 1 0 1 = 43; publishedBottom 1 0 1 = 1",
                "publishedTop 2 0 1 = -4999", "publishedTop 2 0 0 = -5033", "publishedBottom 2 0 0 = 1");
        look(28, "the same fraction when it is found again", "3x addPoint", "fix 0 2 7", "observe 3 2 0 1 1 1",
                "observe 3 2 1 2 1 1; observe 3 2 2 0 -3 1", "publish 3", "publishedTop 0 2 1 = 25",
                "publishedBottom 0 2 1 = 3", "publishedTop 0 2 1 = 25", "top 3 2 1 = 25; bottom 3 2 1 = 3",
                "publish 3", "publishedTop 1 2 1 = 25; publishedBottom 1 2 1 = 3", "isFresh 0 = true");
    }

    private static void rests() {
        look(30, "such a version", "2x addPoint", "fix 0 0 0; observe 0 0 0 1 1 1", "rests 0 0 = INDEX", "publish 0",
                "rests 0 0 = true", "rests -1 0 = INDEX", "rests 1 0 = INDEX", "rests MIN 0 = INDEX",
                "rests MAX 0 = INDEX");
        look(30, "such an observation", "2x addPoint", "fix 0 0 0; publish 0", "rests 0 0 = INDEX",
                "2x observe 0 0 0 1 1 1", "publish 0", "rests 1 -1 = INDEX", "rests 1 2 = INDEX", "rests 1 MIN = INDEX",
                "rests 1 MAX = INDEX", "rests 1 0 = true", "rests 1 1 = true", "rests 0 1 = false");
        look(30, "the last of 60, in the last of 12", "2x addPoint", "fix 0 0 0; fix 0 1 0; fix 0 2 0",
                "10x observe 0 0 0 1 1 1; 10x observe 0 1 0 1 1 1; 10x observe 0 2 0 1 1 1",
                "10x observe 3 0 0 1 1 1; 10x observe 3 1 0 1 1 1; 10x observe 3 2 0 1 1 1", "mask 58 true",
                ALL_VERSIONS, "rests 11 59 = true", "rests 11 58 = false", "rests 11 30 = true", "rests 11 29 = false",
                "rests 11 31 = true", "rests 11 0 = false", "rests 10 0 = true", "rests 10 59 = false",
                "rests 10 31 = false", "rests 10 28 = true", "rests 10 29 = true", "rests 11 60 = INDEX",
                "rests 12 59 = INDEX");
    }

    private static void restsOn() {
        look(30, "it was in use", "4x addPoint", "fix 0 0 0", "observe 0 0 0 1 1 1; observe 0 0 2 3 1 1",
                "observe 0 0 0 1 1 1; observe 0 1 0 1 1 1", "mask 2 true; publish 0", "rests 0 0 = true",
                "rests 0 1 = false", "rests 0 2 = false", "rests 0 3 = false", "mask 0 true; mask 2 false",
                "fix 2 0 0; fix 0 1 0", "rests 0 0 = true", "rests 0 1 = false", "rests 0 2 = false",
                "rests 0 3 = false", "publish 0", "rests 1 0 = false", "rests 1 1 = true", "rests 1 2 = true",
                "rests 1 3 = true");
        look(30, "and of this epoch", "2x addPoint", "fix 0 2 0", "observe 0 2 0 1 1 1; observe 4 2 0 1 1 1",
                "publish 4; publish 0", "rests 0 0 = false", "rests 0 1 = true", "rests 1 0 = true",
                "rests 1 1 = false");
        look(30, "between two fixed points", "2x addPoint", "fix 0 0 0; fix 1 0 7", "observe 0 0 0 1 1 1; publish 0",
                "rests 0 0 = true", "release 0 0; release 1 0; publish 0", "rests 0 0 = true", "rests 1 0 = false");
        look(30, "what is told later", "2x addPoint", "fix 0 0 0; publish 0; observe 0 0 0 1 1 1", "rests 0 0 = false",
                "publish 0", "rests 1 0 = true", "rests 0 0 = false");
    }

    private static void isFresh() {
        look(31, "such a version", "isFresh 0 = INDEX", "addPoint; fix 0 0 0; publish 0", "isFresh 0 = true",
                "isFresh -1 = INDEX", "isFresh 1 = INDEX", "isFresh MIN = INDEX", "isFresh MAX = INDEX");
        look(31, "the last of 12", "2x addPoint; fix 0 0 0", ALL_VERSIONS, "isFresh 11 = true", "isFresh 12 = INDEX",
                "observe 3 0 0 1 5 1", "isFresh 11 = false", "isFresh 10 = true", "isFresh 8 = false");
        look(31, "along all axes", "addPoint; fix 0 0 1; fix 0 1 2; fix 0 2 3; publish 1", "isFresh 0 = true",
                "fix 0 0 2", "isFresh 0 = false", "fix 0 0 1", "isFresh 0 = true", "fix 0 1 3", "isFresh 0 = false",
                "fix 0 1 2", "isFresh 0 = true", "fix 0 2 4", "isFresh 0 = false", "fix 0 2 3", "isFresh 0 = true");
        look(31, "the same points that hang", "3x addPoint; fix 0 0 1; observe 0 0 0 1 4 1; publish 0",
                "observe 0 0 1 2 1 1", "isFresh 0 = false", "mask 1 true", "isFresh 0 = true", "mask 0 true",
                "isFresh 0 = false", "fix 1 0 5", "isFresh 0 = true", "fix 2 2 0", "isFresh 0 = false", "release 2 2",
                "isFresh 0 = true", "addPoint", "isFresh 0 = true");
        look(31, "a point at 0 is not one that does not hang", "2x addPoint; fix 0 0 0; publish 0", "fix 1 0 0",
                "isFresh 0 = false", "publish 0", "isFresh 1 = true", "release 1 0", "isFresh 0 = true",
                "isFresh 1 = false", "release 0 0", "isFresh 0 = false", "isFresh 1 = false");
    }

    private static void isFreshAgain() {
        look(31, "and the same coordinates", "2x addPoint; fix 0 0 0; observe 0 0 0 1 4 1; observe 0 0 0 1 5 1",
                "publish 0", "isFresh 0 = true", "observe 0 0 0 1 4 1", "isFresh 0 = false", "observe 0 0 0 1 5 1",
                "isFresh 0 = true", "observe 0 0 1 0 -5 1", "isFresh 0 = false", "mask 0 true; mask 1 true",
                "isFresh 0 = false", "mask 4 true", "isFresh 0 = true");
        look(31, "what is in use may be another", "2x addPoint; fix 0 0 0; observe 0 0 0 1 4 1; publish 0",
                "observe 0 0 0 1 4 2; mask 0 true", "isFresh 0 = true", "fix 1 0 4", "isFresh 0 = true",
                "mask 1 true", "isFresh 0 = true", "release 1 0", "isFresh 0 = false");
        look(31, "of its epoch", "2x addPoint; fix 0 0 0; observe 0 0 0 1 4 1; publish 0; publish 1",
                "observe 1 0 0 1 4 1", "isFresh 0 = true", "isFresh 1 = false", "mask 0 true", "isFresh 0 = false",
                "isFresh 1 = false", "mask 1 true", "isFresh 1 = true");
        look(31, "all moved alike", "2x addPoint; fix 0 0 0; observe 0 0 0 1 4 1; publish 0", "fix 0 0 1",
                "isFresh 0 = false", "release 0 0; fix 1 0 4", "isFresh 0 = true");
    }

    private static void wrongMoves() {
        String made = "6x addPoint; fix 0 0 1; fix 5 2 1; publish 0; fix 0 0 4; fix 5 2 -2; publish 4";
        String[] names = {"movedTop", "movedBottom"};
        String[] first = {"3", "1"};
        String[] last = {"-3", "1"};
        for (int turn = 0; turn < names.length; turn++) {
            String name = names[turn];
            look(32 + turn, name + ", such a point", made, name + " 0 0 0 1 = " + first[turn],
                    name + " 5 2 0 1 = " + last[turn], name + " -1 0 0 1 = INDEX", name + " 6 2 0 1 = INDEX",
                    name + " MIN 0 0 1 = INDEX", name + " MAX 0 0 1 = INDEX");
            look(32 + turn, name + ", such an axis", made, name + " 0 -1 0 1 = INDEX", name + " 5 3 0 1 = INDEX",
                    name + " 0 MIN 0 1 = INDEX", name + " 0 MAX 0 1 = INDEX");
            look(32 + turn, name + ", such a version, for either", made, name + " 0 0 -1 1 = INDEX",
                    name + " 0 0 2 1 = INDEX", name + " 0 0 0 -1 = INDEX", name + " 0 0 0 2 = INDEX",
                    name + " 0 0 MIN 1 = INDEX", name + " 0 0 MAX 1 = INDEX", name + " 0 0 0 MIN = INDEX",
                    name + " 0 0 0 MAX = INDEX", name + " 0 0 2 2 = INDEX");
            look(32 + turn, name + ", the last of 12 versions", "addPoint; fix 0 0 1", ALL_VERSIONS,
                    name + " 0 0 11 0 = " + turn, name + " 0 0 0 11 = " + turn, name + " 0 0 12 0 = INDEX",
                    name + " 0 0 0 12 = INDEX");
            look(32 + turn, name + ", one of both has no coordinate", "2x addPoint; fix 0 0 1; publish 0; fix 1 0 1",
                    "publish 0; release 0 0; publish 0", name + " 1 0 0 1 = NONE", name + " 1 0 1 0 = NONE",
                    name + " 0 0 1 2 = NONE", name + " 0 0 2 1 = NONE", name + " 1 0 0 0 = NONE",
                    name + " 0 1 0 1 = NONE", name + " 0 2 0 1 = NONE", name + " 0 0 0 1 = " + turn,
                    name + " 1 0 1 2 = " + turn);
            look(32 + turn, name + ", the index ahead of no coordinate", "2x addPoint; publish 0",
                    name + " 2 0 0 0 = INDEX", name + " 0 3 0 0 = INDEX", name + " 0 0 1 0 = INDEX",
                    name + " 0 0 0 1 = INDEX", name + " 0 0 0 0 = NONE");
        }
    }

    private static void moves() {
        look(32, "the second told less the first told, whichever is newer", "addPoint; fix 0 1 5; publish 0; fix 0 1 7",
                "publish 0", "movedTop 0 1 0 1 = 2; movedBottom 0 1 0 1 = 1",
                "movedTop 0 1 1 0 = -2; movedBottom 0 1 1 0 = 1", "movedTop 0 1 1 1 = 0; movedBottom 0 1 1 1 = 1");
        look(33, "without a common divisor above 1", "2x addPoint; fix 0 0 0", "observe 0 0 0 1 0 1; observe 0 0 0 1 1 1",
                "observe 1 0 0 1 0 2; observe 1 0 0 1 1 1", "observe 2 0 0 1 0 1; observe 2 0 0 1 -1 1",
                "publish 0; publish 1; publish 2", "movedTop 1 0 0 1 = -1; movedBottom 1 0 0 1 = 6",
                "movedTop 1 0 2 0 = 1; movedBottom 1 0 2 0 = 1", "movedTop 1 0 2 1 = 5; movedBottom 1 0 2 1 = 6",
                "movedTop 0 0 0 1 = 0; movedBottom 0 0 0 1 = 1");
        look(32, "the greatest move", "2x addPoint; fix 0 0 4999; fix 1 0 4999; publish 0; fix 0 0 -4999; publish 0",
                "movedTop 0 0 0 1 = -9998", "movedTop 0 0 1 0 = 9998", "movedTop 1 0 0 1 = 0");
        look(32, "between versions of two epochs", "2x addPoint; fix 0 0 0; observe 0 0 0 1 3 1; observe 4 0 0 1 -3 1",
                "publish 4; publish 0", "movedTop 1 0 0 1 = 6", "movedTop 1 0 1 0 = -6");
    }

    private static void wrongMoved() {
        String made = "addPoint; fix 0 0 1; fix 0 2 1; publish 0; fix 0 0 4; fix 0 2 4; publish 0";
        look(34, "such an axis", made, "moved 0 0 1 0 = 1", "moved 2 0 1 0 = 1", "moved 1 0 1 0 = 0",
                "moved -1 0 1 0 = INDEX", "moved 3 0 1 0 = INDEX", "moved MIN 0 1 0 = INDEX", "moved MAX 0 1 0 = INDEX");
        look(34, "such a version, for either", made, "moved 0 -1 1 0 = INDEX", "moved 0 2 1 0 = INDEX",
                "moved 0 0 -1 0 = INDEX", "moved 0 0 2 0 = INDEX", "moved 0 MIN 1 0 = INDEX", "moved 0 MAX 1 0 = INDEX",
                "moved 0 0 MIN 0 = INDEX", "moved 0 0 MAX 0 = INDEX", "moved 0 1 1 0 = 0", "moved 0 0 0 0 = 0");
        look(34, "a limit from 0 to 9999", made, "moved 0 0 1 0 = 1", "moved 0 0 1 9999 = 0",
                "moved 0 0 1 -1 = ARGUMENT", "moved 0 0 1 10000 = ARGUMENT", "moved 0 0 1 MIN = ARGUMENT",
                "moved 0 0 1 MAX = ARGUMENT");
        look(34, "the index ahead of the limit", made, "moved 3 0 1 -1 = INDEX", "moved -1 0 1 10000 = INDEX",
                "moved 0 2 1 -1 = INDEX", "moved 0 0 2 10000 = INDEX", "moved 0 0 1 10000 = ARGUMENT");
        look(34, "the last of 12 versions", "addPoint; fix 0 0 1", ALL_VERSIONS, "moved 0 0 11 0 = 0",
                "moved 0 11 0 0 = 0", "moved 0 0 12 0 = INDEX", "moved 0 12 0 0 = INDEX");
    }

    private static void moved() {
        look(34, "more than a limit, either way", "3x addPoint; fix 0 0 0; fix 1 0 0; fix 2 0 0; publish 0; fix 0 0 5",
                "fix 1 0 -6; publish 0", "moved 0 0 1 0 = 2", "moved 0 0 1 4 = 2", "moved 0 0 1 5 = 1",
                "moved 0 0 1 6 = 0", "moved 0 1 0 4 = 2", "moved 0 1 0 5 = 1", "moved 0 1 0 6 = 0");
        look(34, "fractions next to a limit", "2x addPoint; fix 0 0 0; observe 0 0 0 1 0 1; publish 0",
                "observe 0 0 0 1 1 1; publish 0; observe 0 0 0 1 -10 1; publish 0", "moved 0 0 1 0 = 1",
                "moved 0 0 1 1 = 0", "moved 0 0 2 2 = 1", "moved 0 0 2 3 = 0", "moved 0 1 2 3 = 1",
                "moved 0 1 2 4 = 0");
        look(34, "no points, and all 6", "publish 0; publish 0", "moved 0 0 1 0 = 0", "6x addPoint",
                "moved 0 0 1 0 = 0", "fix 0 1 0; fix 1 1 0; fix 2 1 0; fix 3 1 0; fix 4 1 0; fix 5 1 0; publish 0",
                "moved 1 0 2 0 = 0", "fix 0 1 1; fix 1 1 1; fix 2 1 1; fix 3 1 1; fix 4 1 1; fix 5 1 1; publish 0",
                "moved 1 2 3 0 = 6", "moved 1 2 3 1 = 0", "moved 1 1 3 0 = 0");
        look(34, "the points of which both have coordinates", "2x addPoint; fix 0 0 900; publish 0; release 0 0",
                "fix 1 0 900; publish 0; fix 0 0 800; publish 0", "moved 0 0 1 0 = 0", "moved 0 1 0 0 = 0",
                "moved 0 0 2 0 = 1", "moved 0 1 2 0 = 0");
        // From -4999 to 4999, and 2 or 1 on.
        look(34, "more than 9999", "2x addPoint; fix 0 0 -4999; observe 0 0 0 1 0 1; publish 0; fix 0 0 4999",
                "observe 1 0 0 1 2 1; publish 1; observe 2 0 0 1 1 1; publish 2", "movedTop 1 0 0 1 = 10000",
                "moved 0 0 1 9999 = 1", "moved 0 0 1 9998 = 1", "movedTop 1 0 0 2 = 9999", "moved 0 0 2 9999 = 0",
                "moved 0 0 2 9998 = 1", "moved 0 0 2 9997 = 2");
    }
}
