import java.lang.reflect.InvocationTargetException;
import java.lang.reflect.Method;
import java.util.Map;
import java.util.TreeMap;

/** Long runs of calls, each answered by the class and by the plain model. */
public final class ModelTest {
    private static final int RUNS = 250;
    private static final int CALLS = 512;

    // A line is how often, which call, and a letter for each argument: p a point, q a point to be fixed, m a
    // monument, a an axis, e an epoch, o an observation, v a version, d a deed, c a corner, b a truth value,
    // x a fixed coordinate, t a value told, w a weight, l a limit, s a step.
    private static final String[] PLAN = {
        "6 addPoint", "9 fix qax", "3 release qa", "40 observe eapptw", "6 mask ob", "3 isInUse o", "3 hangs eap",
        "3 parts ea", "3 spare ea", "5 top eap", "5 bottom eap", "4 rounded eap", "4 doubtTop eap",
        "4 doubtBottom eap", "4 residualTop o", "4 residualBottom o", "4 sumTop ea", "4 sumBottom ea", "4 isNeeded o",
        "4 dropTop o", "4 dropBottom o", "4 worst ea", "3 clean eal", "5 publish e", "2 epochOf v", "3 published vap",
        "3 publishedTop vap", "3 publishedBottom vap", "3 rests vo", "4 isFresh v", "3 movedTop pavv",
        "3 movedBottom pavv", "4 moved avvl", "3 deed", "12 corner dmss", "4 placeOf dvca", "4 area dv",
        "4 yields dv", "2 masked", "2 usedShare", "2 meanTold", "2 isSound"};

    private static long seed;
    private static int wrong = 0;

    private int observations = 0;
    private int versions = 0;
    private int deeds = 0;
    // Runs differ in how far values reach: near ones tell the same more often.
    private final int reach;
    private final int epochs;
    private final int fixable;

    private ModelTest(int run) {
        reach = new int[] {2, 9, 60, 999}[run % 4];
        epochs = run % 3 == 0 ? 5 : 1 + run % 2;
        fixable = new int[] {1, 2, 6}[run / 4 % 3];
    }

    public static void main(String[] args) throws ReflectiveOperationException {
        Map<String, Integer> seen = new TreeMap<>();
        for (int run = 0; run < RUNS; run++) {
            seed = run;
            new ModelTest(run).run(run, seen);
        }
        for (String line : PLAN) {
            String name = line.split(" ")[1];
            if (seen.getOrDefault(name, 0) < 100) {
                wrong++;
                System.out.println(name + " was hardly answered: " + seen.getOrDefault(name, 0));
            }
        }
        System.out.println(RUNS * CALLS + " calls, " + wrong + " wrong");
        if (wrong != 0) {
            System.exit(1);
        }
    }

    private static int below(int bound) {
        seed = seed * 6364136223846793005L + 1442695040888963407L;
        return (int) ((seed >>> 33) % bound);
    }

    private void run(int run, Map<String, Integer> seen) throws ReflectiveOperationException {
        Traversehall land = new Traversehall();
        PlainLand model = new PlainLand();
        StringBuilder told = new StringBuilder();
        for (int call = 0; call < CALLS; call++) {
            String[] line = call < 5 ? PLAN[0].split(" ") : pick();
            String letters = line.length > 2 ? line[2] : "";
            Object[] values = new Object[letters.length()];
            Class<?>[] types = new Class<?>[letters.length()];
            for (int index = 0; index < values.length; index++) {
                char letter = letters.charAt(index);
                types[index] = letter == 'b' ? boolean.class : int.class;
                values[index] = letter == 'b' ? (Object) (below(2) == 0) : (Object) value(letter);
            }
            Object got = answer(Traversehall.class.getMethod(line[1], types), land, values);
            Object want = answer(PlainLand.class.getMethod(line[1], types), model, values);
            told.append(line[1]).append(java.util.Arrays.toString(values)).append(' ');
            if (!got.equals(want)) {
                wrong++;
                System.out.println("run " + run + ": " + told + "answered " + got + ", due is " + want);
                return;
            }
            if (!(got instanceof Class)) {
                seen.merge(line[1], 1, Integer::sum);
                note(line[1]);
            }
        }
    }

    private void note(String name) {
        observations += name.equals("observe") ? 1 : 0;
        versions += name.equals("publish") ? 1 : 0;
        deeds += name.equals("deed") ? 1 : 0;
    }

    private static String[] pick() {
        int sum = 0;
        for (String line : PLAN) {
            sum += Integer.parseInt(line.split(" ")[0]);
        }
        int turn = below(sum);
        for (String line : PLAN) {
            String[] words = line.split(" ");
            turn -= Integer.parseInt(words[0]);
            if (turn < 0) {
                return words;
            }
        }
        return PLAN[0].split(" ");
    }

    private int value(char letter) {
        if (below(60) == 0) {
            int[] odd = {-1, -2, Integer.MIN_VALUE, Integer.MAX_VALUE, 6, 10, 12, 60, 1000, -1000, 5000, -5000, 10000};
            return odd[below(odd.length)];
        }
        switch (letter) {
            case 'p':
                return below(6);
            case 'q':
                return below(fixable);
            case 'm':
                return below(7) - 1;
            case 'a':
                return below(below(4) == 0 ? 3 : 2);
            case 'e':
                return below(epochs);
            case 'o':
                return below(observations + 1);
            case 'v':
                return below(versions + 1);
            case 'd':
                return below(below(3) == 0 ? deeds + 1 : 2);
            case 'c':
                return below(5);
            case 'x':
                return reach > 900 ? farther(4999) : farther(reach);
            case 't':
            case 's':
                return farther(reach);
            case 'w':
                return 1 + below(2);
            default:
                return below(3) == 0 ? below(10000) : below(reach + 1);
        }
    }

    /** Up to a bound either way, the bounds themselves often. */
    private static int farther(int most) {
        int turn = below(8);
        return turn == 0 ? most : turn == 1 ? -most : below(2 * most + 1) - most;
    }

    private static Object answer(Method method, Object land, Object[] values) throws ReflectiveOperationException {
        try {
            return method.invoke(land, values);
        } catch (InvocationTargetException e) {
            return e.getCause().getClass();
        }
    }
}
