import java.util.List;

/** Looks at sentences of the document that name a boundary case, each by a run of calls of its own. */
final class Edges {
    private int looked = 0;
    private int refused = 0;
    private int wrong = 0;

    /**
     * The calls of a sentence on a new object. One without an answer that is due must not be refused; behind each one
     * that is refused, the land must be as it was.
     */
    void look(int promise, String sentence, String... texts) {
        List<String> calls = Script.calls(texts);
        Traversehall land = new Traversehall();
        if (calls.size() > Looks.MAX_CALLS) {
            fail(promise, sentence, "has " + calls.size() + " calls");
        }
        for (int turn = 0; turn < calls.size(); turn++) {
            String call = calls.get(turn);
            String due = Script.dueOf(call);
            Object answer = Script.call(land, call);
            looked += due != null ? 1 : 0;
            if (due == null ? Script.isRefusal(answer) : !Script.isAnswer(answer, due)) {
                fail(promise, sentence, call + ", answered " + answer);
            }
            if (Script.isRefusal(answer)) {
                lookBehindRefusal(promise, sentence, calls, turn);
            }
        }
    }

    private void lookBehindRefusal(int promise, String sentence, List<String> calls, int turn) {
        refused++;
        List<String> one = calls.subList(turn, turn + 1);
        String difference = new Looks(calls.subList(0, turn)).differenceBy(one);
        if (difference != null) {
            fail(promise, sentence, "behind " + calls.get(turn) + ": " + difference);
        }
    }

    private void fail(int promise, String sentence, String what) {
        wrong++;
        System.out.println("promise " + promise + ", " + sentence + ": " + what);
    }

    void end() {
        System.out.println(looked + " answers looked at, " + refused + " refusals change nothing, " + wrong + " wrong");
        if (wrong != 0 || looked == 0) {
            System.exit(1);
        }
    }
}
