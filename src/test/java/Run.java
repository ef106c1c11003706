import java.util.ArrayList;
import java.util.List;

/** A run of calls on one new object, each held against the answer that is due. */
final class Run implements Names {
    private final Checks checks;
    private final String about;
    private final ConversionTables x = new ConversionTables();
    private final List<Call> told = new ArrayList<>();
    private int calls = 0;

    Run(Checks checks, String about) {
        this.checks = checks;
        this.about = about;
    }

    /** A run on another new object, in the same case. */
    Run another() {
        return new Run(checks, about);
    }

    Answer newClass(int above, int face, boolean isFinal) {
        return ask("newClass", above, face, isFinal ? 1 : 0);
    }

    Answer newInterface(int one, int two) {
        return ask("newInterface", one, two);
    }

    Answer array(int type) {
        return ask("array", type);
    }

    Answer type(int t, int what) {
        return ask("type", t, what);
    }

    Answer under(int s, int t) {
        return ask("under", s, t);
    }

    Answer kind(int from, int to, int context) {
        return ask("kind", from, to, context);
    }

    Answer given(long v, int from, int to) {
        return ask("given", v, from, to);
    }

    Answer targets(int from, int context) {
        return ask("targets", from, context);
    }

    Answer turned(int from, long bits, int to) {
        return ask("turned", from, bits, to);
    }

    Answer promoted(int t) {
        return ask("promoted", t);
    }

    Answer both(int a, int b) {
        return ask("both", a, b);
    }

    Answer conditional(int a, int b) {
        return ask("conditional", a, b);
    }

    Answer box(int type, long bits) {
        return ask("box", type, bits);
    }

    Answer make(int type) {
        return ask("make", type);
    }

    Answer typeOf(int object) {
        return ask("typeOf", object);
    }

    Answer unboxed(int object, int box) {
        return ask("unboxed", object, box);
    }

    Answer cast(int object, int as, int to) {
        return ask("cast", object, as, to);
    }

    Answer count(int what) {
        return ask("count", what);
    }

    /** CLASSES up to the last TYPE there may be, the first of which gets the number told. */
    void fillTypes(int next) {
        for (int t = next; t < MOST_TYPES; t++) {
            newClass(NONE, NONE, false).is(t);
        }
    }

    /** OBJECTS up to the last one there may be, the first of which gets the number told. */
    void fillObjects(int next) {
        for (int object = next; object < MOST_OBJECTS; object++) {
            make(OBJECT).is(object);
        }
    }

    private Answer ask(String name, long... arguments) {
        calls++;
        if (calls > MOST_CALLS) {
            throw new IllegalStateException(about + " asks for more than the document promises");
        }
        Call call = new Call(name, arguments);
        String got = call.answerOf(x);
        if (call.tells() && !got.startsWith("-")) {
            told.add(call);
        }
        return new Answer(call, got);
    }

    /** What a call answered, still to be held against what is due. */
    final class Answer {
        private final Call call;
        private final String got;

        private Answer(Call call, String got) {
            this.call = call;
            this.got = got;
        }

        int is(long due) {
            checks.due(about + ": " + call, got, Long.toString(due));
            return (int) due;
        }

        /** BAD, OUTSIDE or FULL, and nothing has changed. */
        void refused(int due) {
            isAndChangesNothing(due);
        }

        void isAndChangesNothing(long due) {
            is(due);
            nothingChanged();
        }

        void fails(String due) {
            checks.due(about + ": " + call, got, due);
            nothingChanged();
        }

        private void nothingChanged() {
            String changed = Afterwards.firstChange(told, call);
            checks.due(about + ": after " + call + ", what has changed", changed, "nothing");
        }
    }
}
