import java.util.ArrayList;
import java.util.List;

/**
 * All that can be told of a land by its answers. An object is used for at most 512 calls, so that the looks are taken
 * page by page, each on a land of its own that the same calls have made.
 */
final class Looks {
    static final int MAX_CALLS = 512;

    private final List<String> made;
    private final List<String> looks = new ArrayList<>();
    private int points = 0;
    private int observations = 0;
    private int versions = 0;
    private final List<Integer> corners = new ArrayList<>();

    /** The looks at what some calls have made. */
    Looks(List<String> made) {
        this.made = made;
        count();
        lookAtNets();
        lookAtObservations();
        lookAtVersions();
        lookAtDeeds();
        looks.addAll(Script.calls("masked", "usedShare", "meanTold", "isSound"));
    }

    private void count() {
        Traversehall land = new Traversehall();
        for (String call : made) {
            if (!Script.isRefusal(Script.call(land, call))) {
                String name = Script.nameOf(call);
                points += name.equals("addPoint") ? 1 : 0;
                observations += name.equals("observe") ? 1 : 0;
                versions += name.equals("publish") ? 1 : 0;
                if (name.equals("deed")) {
                    corners.add(0);
                } else if (name.equals("corner")) {
                    int deed = Integer.parseInt(call.split(" ")[1]);
                    corners.set(deed, corners.get(deed) + 1);
                }
            }
        }
    }

    private void lookAtNets() {
        for (int epoch = 0; epoch < 5; epoch++) {
            for (int axis = 0; axis < 3; axis++) {
                String net = " " + epoch + " " + axis;
                for (String name : new String[] {"parts", "spare", "sumTop", "sumBottom", "worst"}) {
                    looks.add(name + net);
                }
                for (int point = 0; point <= points; point++) {
                    for (String name : new String[] {"hangs", "top", "bottom", "doubtTop", "doubtBottom"}) {
                        looks.add(name + net + " " + point);
                    }
                }
            }
        }
    }

    private void lookAtObservations() {
        for (int observation = 0; observation <= observations; observation++) {
            for (String name : new String[] {"isInUse", "residualTop", "isNeeded", "dropTop", "dropBottom"}) {
                looks.add(name + " " + observation);
            }
        }
    }

    private void lookAtVersions() {
        for (int version = 0; version <= versions; version++) {
            looks.add("epochOf " + version);
            looks.add("isFresh " + version);
            for (int axis = 0; axis < 3; axis++) {
                looks.add("moved " + axis + " 0 " + version + " 0");
                for (int point = 0; point <= points; point++) {
                    looks.add("publishedTop " + version + " " + axis + " " + point);
                    looks.add("publishedBottom " + version + " " + axis + " " + point);
                }
            }
            for (int observation = 0; observation <= observations; observation++) {
                looks.add("rests " + version + " " + observation);
            }
        }
    }

    private void lookAtDeeds() {
        for (int deed = 0; deed < corners.size(); deed++) {
            for (int version = 0; version < versions; version++) {
                looks.add("area " + deed + " " + version);
                looks.add("yields " + deed + " " + version);
                for (int corner = 0; corner <= corners.get(deed); corner++) {
                    looks.add("placeOf " + deed + " " + version + " " + corner + " 0");
                    looks.add("placeOf " + deed + " " + version + " " + corner + " 1");
                }
            }
        }
    }

    /** What can only be told by changing the land. */
    private List<String> probes() {
        List<String> probes = new ArrayList<>();
        for (int observation = 0; observation <= observations; observation++) {
            probes.add("mask " + observation + " true");
        }
        for (int point = 0; point <= points; point++) {
            for (int axis = 0; axis < 3; axis++) {
                probes.add("release " + point + " " + axis);
            }
        }
        probes.addAll(Script.calls("addPoint", "deed", "publish 0", "addPoint", "deed", "publish 1", "masked"));
        for (int deed = 0; deed <= corners.size(); deed++) {
            probes.add("corner " + deed + " -1 1 2");
        }
        for (int epoch = 0; epoch < 5; epoch++) {
            for (int axis = 0; axis < 3; axis++) {
                probes.add("observe " + epoch + " " + axis + " 0 1 7 1");
            }
        }
        return probes;
    }

    /** The first look that answers otherwise when more calls were told behind those that made the land, or null. */
    String differenceBy(List<String> more) {
        List<String> longer = new ArrayList<>(made);
        longer.addAll(more);
        String found = difference(longer, probes());
        int room = MAX_CALLS - longer.size();
        for (int from = 0; from < looks.size() && found == null; from += room) {
            found = difference(longer, looks.subList(from, Math.min(looks.size(), from + room)));
        }
        return found;
    }

    private String difference(List<String> longer, List<String> page) {
        Traversehall before = landOf(made);
        Traversehall after = landOf(longer);
        for (String look : page) {
            Object was = Script.call(before, look);
            Object is = Script.call(after, look);
            if (!was.equals(is)) {
                return look + " answered " + was + " ahead and " + is + " behind";
            }
        }
        return null;
    }

    private static Traversehall landOf(List<String> calls) {
        Traversehall land = new Traversehall();
        for (String call : calls) {
            Script.call(land, call);
        }
        return land;
    }
}
