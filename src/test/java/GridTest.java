import java.util.LinkedHashSet;
import java.util.List;
import java.util.Set;

/**
 * Each call with each of its arguments below, at and above its bounds, together with each of the others, so that all
 * that can be wrong at once is wrong at once; on lands that are empty, full and between, each beside the plain model.
 */
public final class GridTest {
    // A letter for each argument: p a point, m a monument, a an axis, e an epoch, o an observation, v a version,
    // d a deed, c a corner, b a truth value, x a fixed coordinate, t a value told, w a weight, l a limit, s a step.
    private static final String[] FACE = {"addPoint", "fix pax", "release pa", "observe eapptw", "mask ob", "isInUse o",
        "hangs eap", "parts ea", "spare ea", "top eap", "bottom eap", "rounded eap", "doubtTop eap", "doubtBottom eap",
        "residualTop o", "residualBottom o", "sumTop ea", "sumBottom ea", "isNeeded o", "dropTop o", "dropBottom o",
        "worst ea", "clean eal", "publish e", "epochOf v", "published vap", "publishedTop vap", "publishedBottom vap",
        "rests vo", "isFresh v", "movedTop pavv", "movedBottom pavv", "moved avvl", "deed", "corner dmss",
        "placeOf dvca", "area dv", "yields dv", "masked", "usedShare", "meanTold", "isSound"};
    private static final String SIX = "6x addPoint";
    private static final String NET = "observe 0 0 0 1 5 1; observe 0 0 1 2 5 2; observe 0 0 2 0 -11 1;"
            + "observe 4 2 0 5 9 1; observe 4 2 5 0 -8 1; observe 0 1 0 1 7 1";
    private static final String FIFTY_FOUR = "4x observe 0 0 0 1 6 1; 3x observe 0 0 1 2 4 2; 8x observe 4 2 0 5 7 2;"
            + "10x observe 1 0 0 1 3 1; 10x observe 2 0 3 4 3 1; 10x observe 3 1 0 1 3 1; 9x observe 4 0 5 0 -999 2";
    private static final String CORNERS = "corner 0 0 0 0; corner 0 5 3 3; corner 0 -1 9 -9; corner 2 -1 0 0";
    private static final String[][] LANDS = {
        {"isSound"},
        {"addPoint"},
        {"2x addPoint; fix 0 0 4999; observe 0 0 0 1 1 1; publish 0; deed"},
        {SIX, "fix 0 0 10; fix 0 1 20; fix 0 2 30; fix 5 0 90; fix 5 1 -90", NET, "mask 5 true; publish 0; publish 4",
            "3x deed", CORNERS},
        {SIX, "fix 0 0 10; fix 0 1 20; fix 0 2 30; fix 5 0 90; fix 5 1 -90", NET, FIFTY_FOUR, "6x publish 0",
            "6x publish 4", "8x deed", CORNERS, "7x corner 0 -1 1 1; corner 7 5 0 0; 9x corner 7 0 5 6"}};

    private final List<String> made;
    private int points = 0;
    private int observations = 0;
    private int versions = 0;
    private int deeds = 0;
    private Traversehall land;
    private PlainLand model;
    private int calls;
    private static int looked = 0;
    private static int wrong = 0;

    private GridTest(String[] texts) {
        made = Script.calls(texts);
        for (String call : made) {
            String name = Script.nameOf(call);
            points += name.equals("addPoint") ? 1 : 0;
            observations += name.equals("observe") ? 1 : 0;
            versions += name.equals("publish") ? 1 : 0;
            deeds += name.equals("deed") ? 1 : 0;
        }
    }

    public static void main(String[] args) {
        for (String[] texts : LANDS) {
            GridTest grid = new GridTest(texts);
            grid.anew();
            for (String line : FACE) {
                String[] words = line.split(" ");
                grid.lookAll(words[0], words.length > 1 ? words[1] : "", 0);
                grid.lookFar(words[0], words.length > 1 ? words[1] : "");
            }
        }
        System.out.println(looked + " calls, " + wrong + " wrong");
        if (wrong != 0) {
            System.exit(1);
        }
    }

    private void anew() {
        land = new Traversehall();
        model = new PlainLand();
        calls = made.size();
        for (String call : made) {
            if (Script.isRefusal(Script.call(land, call)) || Script.isRefusal(Script.call(model, call))) {
                wrong++;
                System.out.println("refused: " + call + " of " + made);
            }
        }
    }

    private void lookAll(String call, String letters, int done) {
        if (done == letters.length()) {
            look(call);
            return;
        }
        for (String value : values(letters.charAt(done))) {
            lookAll(call + " " + value, letters, done + 1);
        }
    }

    /** The least and the greatest int for each argument alone, the others within their bounds. */
    private void lookFar(String name, String letters) {
        for (int far = 0; far < letters.length(); far++) {
            for (String value : new String[] {"MIN", "MAX"}) {
                StringBuilder call = new StringBuilder(name);
                for (int index = 0; index < letters.length(); index++) {
                    char letter = letters.charAt(index);
                    call.append(' ').append(index == far && letter != 'b' ? value : within(letter, index));
                }
                look(call.toString());
            }
        }
    }

    private static String within(char letter, int index) {
        switch (letter) {
            case 'b':
                return "true";
            case 'w':
                return "1";
            case 'p':
                return index == 3 ? "1" : "0";
            default:
                return "0";
        }
    }

    private void look(String call) {
        if (calls >= Looks.MAX_CALLS) {
            anew();
        }
        Object got = Script.call(land, call);
        Object want = Script.call(model, call);
        looked++;
        calls++;
        if (!got.equals(want)) {
            wrong++;
            System.out.println(call + " answered " + got + ", due is " + want + ", behind " + made);
        }
        // A refused call changes nothing, and the next one is told to what was there.
        if (!Script.isRefusal(want) && changes(call)) {
            anew();
        }
    }

    private static boolean changes(String call) {
        switch (Script.nameOf(call)) {
            case "addPoint":
            case "fix":
            case "release":
            case "observe":
            case "mask":
            case "clean":
            case "publish":
            case "deed":
            case "corner":
                return true;
            default:
                return false;
        }
    }

    private Set<String> values(char letter) {
        switch (letter) {
            case 'p':
                return numbers(-1, 0, points - 1, points);
            case 'm':
                return numbers(-2, -1, 0, points - 1, points);
            case 'a':
                return numbers(-1, 0, 1, 2, 3);
            case 'e':
                return numbers(-1, 0, 4, 5);
            case 'o':
                return numbers(-1, 0, 2, 3, observations - 1, observations);
            case 'v':
                return numbers(-1, 0, versions - 1, versions);
            case 'd':
                return numbers(-1, 0, 1, 2, deeds - 1, deeds);
            case 'c':
                return numbers(-1, 0, 2, 3, 9, 10);
            case 'x':
                return numbers(-5000, -4999, 4999, 5000);
            case 't':
                return numbers(-1000, -999, 999, 1000);
            case 'w':
                return numbers(0, 1, 2, 3);
            case 'l':
                return numbers(-1, 0, 9999, 10000);
            case 's':
                return numbers(-1000, -999, 999, 1000);
            default:
                return new LinkedHashSet<>(List.of("true", "false"));
        }
    }

    private static Set<String> numbers(int... values) {
        Set<String> numbers = new LinkedHashSet<>();
        for (int value : values) {
            numbers.add(String.valueOf(value));
        }
        return numbers;
    }
}
