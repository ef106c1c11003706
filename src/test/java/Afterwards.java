import java.util.ArrayList;
import java.util.List;

/**
 * Tells what a call has changed: the same calls are made on two new objects, this one on one of
 * them alone, and both are asked the same. No object is asked more than the document allows, so
 * the questions are spread over many pairs of objects.
 */
final class Afterwards implements Names {
    private static final int QUESTIONS_OF_ONE_OBJECT = 300;
    private static final List<Call> QUESTIONS = questions();
    /** What comes next shows whether a number or a place has been lost. */
    private static final List<Call> NEXT = List.of(new Call("newClass", NONE, NONE, 0),
            new Call("newInterface", NONE, NONE), new Call("array", SHORT), new Call("make", NULL),
            new Call("box", BYTE_BOX, 5), new Call("type", NULL, 3), new Call("count", 0),
            new Call("count", 1));

    private Afterwards() {
    }

    static String firstChange(List<Call> told, Call call) {
        for (int i = 0; i < QUESTIONS.size(); i += QUESTIONS_OF_ONE_OBJECT) {
            int end = Math.min(i + QUESTIONS_OF_ONE_OBJECT, QUESTIONS.size());
            List<Call> asked = new ArrayList<>(QUESTIONS.subList(i, end));
            asked.addAll(NEXT);
            String changed = firstChange(told, call, asked);
            if (!changed.equals("nothing")) {
                return changed;
            }
        }
        return "nothing";
    }

    private static String firstChange(List<Call> told, Call call, List<Call> asked) {
        ConversionTables with = after(told);
        ConversionTables without = after(told);
        call.answerOf(with);
        for (Call question : asked) {
            String now = question.answerOf(with);
            String due = question.answerOf(without);
            if (!now.equals(due)) {
                return question + " from " + due + " to " + now;
            }
        }
        return "nothing";
    }

    private static ConversionTables after(List<Call> told) {
        ConversionTables x = new ConversionTables();
        for (Call call : told) {
            call.answerOf(x);
        }
        return x;
    }

    private static List<Call> questions() {
        List<Call> all = new ArrayList<>();
        all.add(new Call("count", 0));
        all.add(new Call("count", 1));
        for (int t = 0; t <= MOST_TYPES; t++) {
            for (int what = 0; what <= 3; what++) {
                all.add(new Call("type", t, what));
            }
            for (int context = 0; context < CONTEXTS; context++) {
                all.add(new Call("targets", t, context));
            }
        }
        for (int s = BOOLEAN_BOX; s < MOST_TYPES; s++) {
            for (int t = BOOLEAN_BOX; t < MOST_TYPES; t++) {
                all.add(new Call("under", s, t));
            }
        }
        for (int object = 0; object <= MOST_OBJECTS; object++) {
            all.add(new Call("typeOf", object));
            for (int box = BOOLEAN_BOX; box <= DOUBLE_BOX; box++) {
                all.add(new Call("unboxed", object, box));
            }
        }
        return all;
    }
}
