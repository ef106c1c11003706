import java.util.ArrayList;
import java.util.List;
import java.util.Random;

/**
 * Runs of calls by chance, of a fixed seed, beside a second telling of the document: one that asks
 * for UNDER, DOWN and the KINDS by the document's own words each time and keeps no tables.
 */
public final class ModelRunsTest {
    private static final Checks CHECKS = new Checks();
    private static final int RUNS = 400;
    private static final int CALLS = 512;

    public static void main(String[] args) {
        for (int run = 0; run < RUNS; run++) {
            oneRun(new Random(run));
        }
        allPairs();
        CHECKS.end();
    }

    private static void oneRun(Random random) {
        ConversionTables x = new ConversionTables();
        Model model = new Model();
        for (int i = 0; i < CALLS; i++) {
            int call = i < 40 ? random.nextInt(5) : random.nextInt(19);
            int a = aType(random, model);
            int b = aType(random, model);
            int c = random.nextInt(8) - 1;
            int object = random.nextInt(model.objects.size() + 2) - 1;
            compare(call, x, model, new int[] {a, b, c, object}, someBits(random));
        }
    }

    private static int aType(Random random, Model model) {
        switch (random.nextInt(6)) {
            case 0:
                return random.nextInt(8);
            case 1:
                return 16 + random.nextInt(7);
            case 2:
                return -1;
            default:
                return random.nextInt(model.types.size() + 1);
        }
    }

    private static long someBits(Random random) {
        switch (random.nextInt(4)) {
            case 0:
                return random.nextInt(4) - 1;
            case 1:
                return random.nextInt(70000) - 35000;
            default:
                return random.nextLong() >> random.nextInt(64);
        }
    }

    private static void compare(int call, ConversionTables x, Model m, int[] p, long bits) {
        int a = p[0];
        int b = p[1];
        int c = p[2];
        int o = p[3];
        String name = call + " of " + a + ", " + b + ", " + c + ", " + o + ", " + bits;
        switch (call) {
            case 0: CHECKS.due(name, x.newClass(a, b, c > 4), m.newClass(a, b, c > 4)); break;
            case 1: CHECKS.due(name, x.newInterface(a, b), m.newInterface(a, b)); break;
            case 2: CHECKS.due(name, x.array(a), m.array(a)); break;
            case 3: CHECKS.due(name, x.make(a), m.make(a)); break;
            case 4: CHECKS.due(name, x.box(a, bits), m.box(a, bits)); break;
            case 5: CHECKS.due(name, x.type(a, c), m.type(a, c)); break;
            case 6: CHECKS.due(name, x.under(a, b), m.underAsked(a, b)); break;
            case 7: CHECKS.due(name, x.kind(a, b, c), m.kindAsked(a, b, c)); break;
            case 8: CHECKS.due(name, x.given(bits, a, b), m.given(bits, a, b)); break;
            case 9: CHECKS.due(name, x.targets(a, c), m.targets(a, c)); break;
            case 10: CHECKS.due(name, x.promoted(a), m.promoted(a)); break;
            case 11: CHECKS.due(name, x.both(a, b), m.both(a, b)); break;
            case 12: CHECKS.due(name, x.conditional(a, b), m.conditional(a, b)); break;
            case 13: CHECKS.due(name, x.typeOf(o), m.typeOf(o)); break;
            case 14:
                CHECKS.due(name, new Call("unboxed", o, a).answerOf(x), m.unboxed(o, a));
                break;
            case 15: case 16: case 17: CHECKS.due(name, x.cast(o, a, b), m.cast(o, a, b)); break;
            default: CHECKS.due(name, x.count(c), m.count(c)); break;
        }
    }

    /** Every pair of types in every context, with as many types as there may be. */
    private static void allPairs() {
        for (int seed = 0; seed < 20; seed++) {
            for (int a = 0; a < 40; a++) {
                pairsOf(a, new Random(1000 + seed));
            }
        }
    }

    // An object of its own for each type, since nothing is promised beyond 512 calls of one.
    private static void pairsOf(int a, Random random) {
        ConversionTables x = new ConversionTables();
        Model model = new Model();
        for (int i = 0; i < 100; i++) {
            int[] p = {aType(random, model), aType(random, model), random.nextInt(8), 0};
            compare(random.nextInt(3), x, model, p, 0);
        }
        for (int b = 0; b < model.types.size(); b++) {
            for (int context = 0; context < 6; context++) {
                compare(7, x, model, new int[] {a, b, context, 0}, 0);
            }
            compare(6, x, model, new int[] {a, b, 0, 0}, 0);
            compare(12, x, model, new int[] {a, b, 0, 0}, 0);
        }
    }

    private record Type(int sort, boolean isFinal, int element, int... above) {
    }

    private record Thing(int type, long bits) {
    }

    private static final class Model {
        final List<Type> types = new ArrayList<>();
        final List<Thing> objects = new ArrayList<>();

        Model() {
            for (int t = 0; t < 8; t++) {
                types.add(new Type(0, false, -2));
            }
            for (int t = 8; t < 16; t++) {
                types.add(t < 10 ? new Type(1, true, -2, 16, 18, 19)
                        : new Type(1, true, -2, 17, 18));
            }
            types.add(new Type(1, false, -2));
            types.add(new Type(1, false, -2, 16, 19));
            for (int t = 18; t <= 20; t++) {
                types.add(new Type(2, false, -2, 16));
            }
            types.add(new Type(1, true, -2, 16, 18, 19));
            types.add(new Type(4, false, -2));
        }

        boolean no(int t) {
            return t < 0 || t >= types.size();
        }

        boolean noObject(int o) {
            return o < 0 || o >= objects.size();
        }

        int sort(int t) {
            return types.get(t).sort;
        }

        boolean number(int t) {
            return t >= 1 && t <= 7;
        }

        boolean isBox(int t) {
            return t >= 8 && t <= 15;
        }

        int add(Type type) {
            if (types.size() == 40) {
                return -3;
            }
            types.add(type);
            return types.size() - 1;
        }

        int newClass(int above, int face, boolean isFinal) {
            if (above != -1 && no(above) || face != -1 && no(face)) {
                return -1;
            }
            int parent = above == -1 ? 16 : above;
            boolean mayBe = parent == 16
                    || parent >= 23 && sort(parent) == 1 && !types.get(parent).isFinal;
            if (!mayBe || face != -1 && sort(face) != 2) {
                return -2;
            }
            return add(face == -1 ? new Type(1, isFinal, -2, parent)
                    : new Type(1, isFinal, -2, parent, face));
        }

        int newInterface(int one, int two) {
            if (one != -1 && no(one) || two != -1 && no(two)) {
                return -1;
            }
            if (one != -1 && sort(one) != 2 || two != -1 && sort(two) != 2) {
                return -2;
            }
            return add(new Type(2, false, -2, 16, one == -1 ? 16 : one, two == -1 ? 16 : two));
        }

        int array(int type) {
            if (no(type)) {
                return -1;
            }
            if (type == 22) {
                return -2;
            }
            for (int t = 23; t < types.size(); t++) {
                if (types.get(t).element == type) {
                    return t;
                }
            }
            return add(new Type(3, false, type, 16, 20, 19));
        }

        boolean under(int s, int t) {
            if (s < 8 || t < 8) {
                return false;
            }
            if (s == t || s == 22) {
                return true;
            }
            for (int above : types.get(s).above) {
                if (under(above, t)) {
                    return true;
                }
            }
            return sort(s) == 3 && sort(t) == 3 && under(types.get(s).element, types.get(t).element);
        }

        boolean up(int s, int t) {
            return s != t && under(s, t);
        }

        boolean openClass(int t) {
            return sort(t) == 1 && !types.get(t).isFinal;
        }

        boolean down(int s, int t) {
            if (s < 8 || t < 8 || s == 22 || t == 22 || under(s, t)) {
                return false;
            }
            if (under(t, s) || sort(s) == 2 && sort(t) == 2) {
                return true;
            }
            if (sort(s) == 2 && openClass(t) || sort(t) == 2 && openClass(s)) {
                return true;
            }
            int one = types.get(s).element;
            int two = types.get(t).element;
            return one >= 8 && two >= 8 && (up(one, two) || down(one, two));
        }

        boolean wider(int s, int t) {
            String row = s + ">" + t + " ";
            return ("2>3 2>4 2>5 2>6 2>7 3>4 3>5 3>6 3>7 1>4 1>5 1>6 1>7 4>5 4>6 4>7 5>6 5>7 6>7 ")
                    .contains(row);
        }

        boolean has(int kind, int s, int t) {
            boolean numbers = number(s) && number(t) && s != t;
            switch (kind) {
                case 1: return s == t;
                case 2: return wider(s, t);
                case 3: return numbers && !wider(s, t) && !(s == 2 && t == 1);
                case 4: return s == 2 && t == 1;
                case 5: return s < 8 && t == s + 8;
                case 6: return s < 8 && up(s + 8, t);
                case 7: return isBox(s) && t == s - 8;
                case 8: return isBox(s) && wider(s - 8, t);
                case 9: return up(s, t);
                case 10: return down(s, t);
                case 11: return t < 8 && down(s, t + 8);
                default: return t == 21;
            }
        }

        int kind(int s, int t, int context) {
            String[] allowed = {" 1 2 9 ", " 1 2 5 6 7 8 9 ", " 1 2 5 6 7 8 9 ",
                " 1 2 3 4 5 6 7 8 9 10 11 ", " 1 12 ", " 1 2 7 8 "};
            if (context == 4 && t != 21 || context == 5 && !number(t)) {
                return 0;
            }
            for (int kind = 1; kind <= 12; kind++) {
                if (allowed[context].contains(" " + kind + " ") && has(kind, s, t)) {
                    return kind;
                }
            }
            return 0;
        }

        int type(int t, int what) {
            if (no(t)) {
                return -1;
            }
            int above = 0;
            for (int other = 0; other < types.size(); other++) {
                above += under(t, other) ? 1 : 0;
            }
            Type type = types.get(t);
            switch (what) {
                case 0: return type.sort;
                case 1: return type.isFinal ? 1 : 0;
                case 2: return type.element;
                case 3: return above;
                default: return -2;
            }
        }

        int underAsked(int s, int t) {
            if (no(s) || no(t)) {
                return -1;
            }
            if (s < 8 || t < 8) {
                return -2;
            }
            return under(s, t) ? 1 : 0;
        }

        int kindAsked(int s, int t, int context) {
            return no(s) || no(t) || context < 0 || context > 5 ? -1 : kind(s, t, context);
        }

        boolean fits(long v, int t) {
            switch (t) {
                case 0: return v == 0 || v == 1;
                case 1: return v == (char) v;
                case 2: return v == (byte) v;
                case 3: return v == (short) v;
                case 4: case 6: return v == (int) v;
                default: return true;
            }
        }

        int given(long v, int from, int to) {
            if (no(from) || no(to)) {
                return -1;
            }
            if (from < 1 || from > 5 || !fits(v, from)) {
                return -2;
            }
            if (kind(from, to, 2) != 0) {
                return 1;
            }
            int narrow = isBox(to) ? to - 8 : to;
            return from != 5 && narrow >= 1 && narrow <= 3 && fits(v, narrow) ? 1 : 0;
        }

        int targets(int from, int context) {
            if (no(from) || context < 0 || context > 5) {
                return -1;
            }
            int found = 0;
            for (int to = 0; to < types.size(); to++) {
                found += kind(from, to, context) != 0 ? 1 : 0;
            }
            return found;
        }

        int open(int t) {
            return isBox(t) ? t - 8 : t;
        }

        int promoted(int t) {
            return both(t, t);
        }

        int both(int a, int b) {
            if (no(a) || no(b)) {
                return -1;
            }
            int s = open(a);
            int t = open(b);
            if (!number(s) || !number(t)) {
                return -2;
            }
            for (int large = 7; large >= 5; large--) {
                if (s == large || t == large) {
                    return large;
                }
            }
            return 4;
        }

        int conditional(int a, int b) {
            if (no(a) || no(b)) {
                return -1;
            }
            if (a == b) {
                return a;
            }
            if (a < 8 && b == a + 8 || b < 8 && a == b + 8) {
                return Math.min(a, b);
            }
            int s = open(a);
            int t = open(b);
            if (number(s) && number(t)) {
                return s == 2 && t == 3 || s == 3 && t == 2 ? 3 : both(a, b);
            }
            int one = a < 8 ? a + 8 : a;
            int two = b < 8 ? b + 8 : b;
            if (one == 22 || two == 22) {
                return one == 22 ? two : one;
            }
            if (under(one, two)) {
                return two;
            }
            return under(two, one) ? one : 16;
        }

        int addThing(int type, long bits) {
            if (objects.size() == 60) {
                return -3;
            }
            objects.add(new Thing(type, bits));
            return objects.size() - 1;
        }

        int box(int type, long bits) {
            if (no(type)) {
                return -1;
            }
            if (!isBox(type) || !fits(bits, type - 8)) {
                return -2;
            }
            long kept = bits;
            if (type == 14) {
                kept = Float.floatToIntBits(Float.intBitsToFloat((int) bits));
            } else if (type == 15) {
                kept = Double.doubleToLongBits(Double.longBitsToDouble(bits));
            }
            return addThing(type, kept);
        }

        int make(int type) {
            if (no(type)) {
                return -1;
            }
            boolean told = type >= 23 && sort(type) != 2;
            return told || type == 16 || type == 21 || type == 22 ? addThing(type, 0) : -2;
        }

        int typeOf(int object) {
            return noObject(object) ? -1 : objects.get(object).type;
        }

        String unboxed(int object, int box) {
            if (noObject(object) || no(box)) {
                return "-1";
            }
            if (!isBox(box)) {
                return "-2";
            }
            Thing thing = objects.get(object);
            if (thing.type == 22) {
                return Names.NULL_POINTER;
            }
            return thing.type == box ? Long.toString(thing.bits) : Names.CLASS_CAST;
        }

        int cast(int object, int as, int to) {
            if (noObject(object) || no(as) || no(to)) {
                return -1;
            }
            int own = objects.get(object).type;
            int kind = kind(as, to, 3);
            if (as < 8 || kind == 0 || !under(own, as)) {
                return -2;
            }
            if (own == 22) {
                return kind == 7 || kind == 8 || kind == 11 ? 2 : 1;
            }
            if (kind == 10) {
                return under(own, to) ? 1 : 0;
            }
            return kind != 11 || own == to + 8 ? 1 : 0;
        }

        int count(int what) {
            if (what == 0) {
                return types.size();
            }
            return what == 1 ? objects.size() : -1;
        }
    }
}
