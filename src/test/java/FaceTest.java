import java.lang.reflect.Constructor;
import java.lang.reflect.Field;
import java.lang.reflect.Method;
import java.lang.reflect.Modifier;
import java.util.ArrayList;
import java.util.Arrays;
import java.util.Collections;
import java.util.HashSet;
import java.util.List;
import java.util.Set;

/** The public face: the members that the document names, and no other that is not private. */
public final class FaceTest {
    private static final String[] FACE = {
        "int addPoint()", "boolean fix(int, int, int)", "int release(int, int)",
        "int observe(int, int, int, int, int, int)", "boolean mask(int, boolean)", "boolean isInUse(int)",
        "boolean hangs(int, int, int)", "int parts(int, int)", "int spare(int, int)", "long top(int, int, int)",
        "long bottom(int, int, int)", "int rounded(int, int, int)", "long doubtTop(int, int, int)",
        "long doubtBottom(int, int, int)", "long residualTop(int)", "long residualBottom(int)",
        "long sumTop(int, int)", "long sumBottom(int, int)", "boolean isNeeded(int)", "long dropTop(int)",
        "long dropBottom(int)", "int worst(int, int)", "int clean(int, int, int)", "int publish(int)",
        "int epochOf(int)", "int published(int, int, int)", "long publishedTop(int, int, int)",
        "long publishedBottom(int, int, int)", "boolean rests(int, int)", "boolean isFresh(int)",
        "long movedTop(int, int, int, int)", "long movedBottom(int, int, int, int)", "int moved(int, int, int, int)",
        "int deed()", "int corner(int, int, int, int)", "int placeOf(int, int, int, int)", "long area(int, int)",
        "int yields(int, int)", "int masked()", "float usedShare()", "double meanTold()", "boolean isSound()"};

    public static void main(String[] args) {
        List<String> wrong = new ArrayList<>();
        Set<String> due = new HashSet<>(Arrays.asList(FACE));
        Set<String> names = new HashSet<>();
        for (String text : FACE) {
            names.add(text.substring(text.indexOf(' ') + 1, text.indexOf('(')));
        }
        Class<?> face = Traversehall.class;
        if (face.getModifiers() != (Modifier.PUBLIC | Modifier.FINAL)) {
            wrong.add("the class is not public and final alone");
        }
        checkMethods(face, due, names, wrong);
        checkRest(face, names, wrong);
        for (String text : due) {
            wrong.add("no member " + text);
        }
        Collections.sort(wrong);
        for (String text : wrong) {
            System.out.println(text);
        }
        System.out.println(FACE.length + " members looked for, " + wrong.size() + " wrong");
        if (!wrong.isEmpty()) {
            System.exit(1);
        }
    }

    private static void checkMethods(Class<?> face, Set<String> due, Set<String> names, List<String> wrong) {
        for (Method method : face.getDeclaredMethods()) {
            String text = textOf(method);
            if (Modifier.isPrivate(method.getModifiers())) {
                if (names.contains(method.getName())) {
                    wrong.add("a private method bears the name of a public one: " + text);
                }
            } else if (method.getModifiers() != Modifier.PUBLIC || !due.remove(text)) {
                wrong.add("not of the face: " + text);
            }
        }
    }

    private static void checkRest(Class<?> face, Set<String> names, List<String> wrong) {
        for (Field field : face.getDeclaredFields()) {
            if (!Modifier.isPrivate(field.getModifiers())) {
                wrong.add("a field that is not private: " + field.getName());
            }
        }
        Constructor<?>[] constructors = face.getDeclaredConstructors();
        if (constructors.length != 1 || constructors[0].getParameterCount() != 0
                || !Modifier.isPublic(constructors[0].getModifiers())) {
            wrong.add("not one public constructor without parameters");
        }
        for (Class<?> inside : face.getDeclaredClasses()) {
            if (Modifier.isPublic(inside.getModifiers()) || !Modifier.isStatic(inside.getModifiers())) {
                wrong.add("a class inside that is public, or not static: " + inside.getName());
            }
            for (Method method : inside.getDeclaredMethods()) {
                if (names.contains(method.getName())) {
                    wrong.add("a class inside bears the name of a public method: " + textOf(method));
                }
            }
        }
    }

    private static String textOf(Method method) {
        List<String> types = new ArrayList<>();
        for (Class<?> type : method.getParameterTypes()) {
            types.add(type.getName());
        }
        return method.getReturnType().getName() + " " + method.getName() + "(" + String.join(", ", types) + ")";
    }
}
