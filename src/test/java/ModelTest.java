import java.util.ArrayList;
import java.util.List;
import java.util.Random;

/**
 * Runs of calls, drawn with fixed seeds, on the class and on a model of it. The model is made of real Java classes,
 * arrays, casts and stores, so that the machine itself tells KIND, NOTHING, PLACE, STORE and SIZE.
 */
public final class ModelTest {
    private static final int RUNS = 3000, CALLS = 512;

    private static class Work {
        final int year;

        Work(int year) {
            this.year = year;
        }

        int worth() {
            return year + 1;
        }
    }

    private static class Picture extends Work {
        Picture(int year) {
            super(year);
        }

        @Override
        int worth() {
            return super.worth() * 2;
        }
    }

    private interface Dated {
        int date();
    }

    private static final class Icon extends Picture implements Dated {
        Icon(int year) {
            super(year);
        }

        @Override
        int worth() {
            return super.worth() + 100;
        }

        @Override
        public int date() {
            return year + 1;
        }
    }

    private static final class Figure extends Work {
        Figure(int year) {
            super(year);
        }
    }

    private static final class Coin implements Dated {
        final int year;

        Coin(int year) {
            this.year = year;
        }

        @Override
        public int date() {
            return year - 1;
        }
    }

    private static final class Box {
        Object held;
    }

    private static final class Want {
        Box box;
        Class<?> kind;
        Object loaded;
    }

    private static final class Lending {
        final List<Want> wants = new ArrayList<>();
        int state;
        int stuckAt = LoanCases.NONE;
    }

    private static final Class<?>[] KINDS = {
        Work.class, Picture.class, Icon.class, Figure.class, Coin.class,
        char[].class, short[].class, boolean[].class, double[].class, short[][].class,
        Work[].class, Picture[].class, Icon[].class, Figure[].class, Dated[].class,
        Picture[][].class, Dated[][].class, Picture[][][].class, Box.class, Dated.class, Object.class,
    };

    private static final class Model {
        private final List<Object> things = new ArrayList<>();
        private final List<Lending> loans = new ArrayList<>();
        private final int[] findings = new int[6];

        long call(int method, int a, int b, int c, int d, long v) {
            try {
                return answer(method, a, b, c, d, v);
            } catch (ClassCastException e) {
                return method == 9 ? Check.CAST : found(1);
            } catch (NullPointerException e) {
                return found(2);
            } catch (ArrayIndexOutOfBoundsException e) {
                return method == 9 ? Check.INDEX : found(3);
            } catch (ArrayStoreException e) {
                return found(4);
            } catch (NegativeArraySizeException e) {
                return found(5);
            }
        }

        private long found(int finding) {
            findings[finding]++;
            return -30 - finding;
        }

        private Object thing(int n) {
            return n >= 0 && n < things.size() ? things.get(n) : null;
        }

        private Box box(int n) {
            return thing(n) instanceof Box b ? b : null;
        }

        private int number(Object o) {
            for (int n = 0; n < things.size(); n++) {
                if (things.get(n) == o) {
                    return n;
                }
            }
            return LoanCases.NONE;
        }

        private int added(Object o) {
            things.add(o);
            return things.size() - 1;
        }

        private static boolean in(int x, int low, int high) {
            return x >= low && x <= high;
        }

        private long answer(int method, int a, int b, int c, int d, long v) {
            switch (method) {
                case 0: return makeThing(a, b);
                case 1: return makeRow(a, b);
                case 2: return things.size() == 110 ? LoanCases.FULL : added(new Box());
                case 8: return write(a, b, c, v);
                case 9: return read(a, b, c);
                case 10: return hang(a, b, c, d);
                case 13: return fill(a, b);
                case 18: return beginLoan();
                case 19: return want(a, b, c);
                case 20: return leave(a);
                case 21: return back(a);
                case 22: return told(a, b);
                case 23: return van(a, b);
                case 24: return count(a);
                case 25: return clear();
                default: return method <= 12 ? askThing(method, a, b, c, d) : askBox(method, a, b);
            }
        }

        private long makeThing(int form, int year) {
            if (!in(form, 0, 4) || !in(year, 0, 3000)) {
                return LoanCases.OUTSIDE;
            }
            if (things.size() == 110) {
                return LoanCases.FULL;
            }
            return switch (form) {
                case 0 -> added(new Work(year));
                case 1 -> added(new Picture(year));
                case 2 -> added(new Icon(year));
                case 3 -> added(new Figure(year));
                default -> added(new Coin(year));
            };
        }

        private long makeRow(int form, int n) {
            if (!in(form, 5, 17) || n > 10) {
                return LoanCases.OUTSIDE;
            }
            if (things.size() == 110) {
                return LoanCases.FULL;
            }
            return added(java.lang.reflect.Array.newInstance(KINDS[form].getComponentType(), n));
        }

        private long askThing(int method, int a, int b, int c, int d) {
            Object o = thing(a);
            if (o == null) {
                return LoanCases.UNKNOWN;
            }
            switch (method) {
                case 3:
                    return !in(b, 0, 20) ? LoanCases.OUTSIDE : KINDS[b].isInstance(o) ? 1 : 0;
                case 4:
                    int n = 0;
                    for (int kind = 0; kind < 20; kind++) {
                        n += KINDS[kind].isInstance(o) ? 1 : 0;
                    }
                    return n;
                case 5:
                    return !in(b, 0, 3) ? LoanCases.OUTSIDE : ((Work) KINDS[b].cast(o)).worth();
                case 6:
                    return ((Dated) o).date();
                case 7:
                    return !in(b, 5, 17) ? LoanCases.OUTSIDE : java.lang.reflect.Array.getLength(KINDS[b].cast(o));
                case 11:
                    return !in(b, 9, 17) ? LoanCases.OUTSIDE : number(((Object[]) KINDS[b].cast(o))[c]);
                default:
                    return deep(o, b, c, d);
            }
        }

        private long deep(Object o, int kind, int i, int k) {
            return switch (kind) {
                case 9 -> ((short[][]) o)[i][k];
                case 15 -> number(((Picture[][]) o)[i][k]);
                case 16 -> number(((Dated[][]) o)[i][k]);
                default -> LoanCases.OUTSIDE;
            };
        }

        private long write(int thing, int kind, int i, long v) {
            Object o = thing(thing);
            if (o == null) {
                return LoanCases.UNKNOWN;
            }
            if (!in(kind, 5, 8) || (kind == 8 && (v < Integer.MIN_VALUE || v > Integer.MAX_VALUE))) {
                return LoanCases.OUTSIDE;
            }
            switch (kind) {
                case 5: ((char[]) o)[i] = (char) v; break;
                case 6: ((short[]) o)[i] = (short) v; break;
                case 7: ((boolean[]) o)[i] = v % 2 != 0; break;
                default: ((double[]) o)[i] = v / 8.0; break;
            }
            return 1;
        }

        private long read(int thing, int kind, int i) {
            Object o = thing(thing);
            if (o == null || !in(kind, 5, 8)) {
                return 0;
            }
            return switch (kind) {
                case 5 -> ((char[]) o)[i];
                case 6 -> ((short[]) o)[i];
                case 7 -> ((boolean[]) o)[i] ? 1 : 0;
                default -> (long) (((double[]) o)[i] * 8);
            };
        }

        private long hang(int thing, int kind, int i, int other) {
            Object o = thing(thing);
            Object hung = thing(other);
            if (o == null || (hung == null && other != LoanCases.NONE)) {
                return LoanCases.UNKNOWN;
            }
            if (!in(kind, 9, 17)) {
                return LoanCases.OUTSIDE;
            }
            Object[] row = (Object[]) KINDS[kind].cast(o);
            Object part = KINDS[kind].getComponentType().cast(hung);
            row[i] = part;
            return 1;
        }

        private static boolean within(Box box, Object outer) {
            return outer instanceof Box b && (b.held == box || within(box, b.held));
        }

        private long fill(int box, int thing) {
            Box b = box(box);
            Object o = thing(thing);
            if (b == null || (o == null && thing != LoanCases.NONE)) {
                return LoanCases.UNKNOWN;
            }
            if (o == b || within(b, o)) {
                return LoanCases.TURN;
            }
            int before = number(b.held);
            b.held = o;
            return before;
        }

        private static Object innermost(Box b) {
            return b.held instanceof Box inner ? innermost(inner) : b.held;
        }

        private static int depth(Box b) {
            return b.held instanceof Box inner ? 1 + depth(inner) : 1;
        }

        private long askBox(int method, int a, int kind) {
            Box b = box(a);
            if (b == null) {
                return LoanCases.UNKNOWN;
            }
            return switch (method) {
                case 14 -> number(b.held);
                case 15 -> !in(kind, 0, 20) ? LoanCases.OUTSIDE : KINDS[kind].isInstance(innermost(b)) ? 1 : 0;
                case 16 -> depth(b);
                default -> ((Work) innermost(b)).worth();
            };
        }

        private Lending lending(int n) {
            return n >= 0 && n < loans.size() ? loans.get(n) : null;
        }

        private long beginLoan() {
            if (loans.size() == 8) {
                return LoanCases.FULL;
            }
            loans.add(new Lending());
            return loans.size() - 1;
        }

        private long want(int loan, int box, int kind) {
            Lending l = lending(loan);
            if (l == null || box(box) == null) {
                return LoanCases.UNKNOWN;
            }
            if (!in(kind, 0, 20)) {
                return LoanCases.OUTSIDE;
            }
            if (l.state != 0) {
                return LoanCases.TURN;
            }
            if (l.wants.size() == 8) {
                return LoanCases.FULL;
            }
            Want w = new Want();
            w.box = box(box);
            w.kind = KINDS[kind];
            l.wants.add(w);
            return l.wants.size();
        }

        private long leave(int loan) {
            Lending l = lending(loan);
            if (l == null) {
                return LoanCases.UNKNOWN;
            }
            if (l.state != 0) {
                return LoanCases.TURN;
            }
            l.state = 1;
            for (Want w : l.wants) {
                l.stuckAt = l.wants.indexOf(w);
                Object taken = w.kind.cast(w.box.held);
                taken.getClass();
                w.loaded = taken;
                w.box.held = null;
            }
            l.state = 2;
            l.stuckAt = LoanCases.NONE;
            return 1;
        }

        private long back(int loan) {
            Lending l = lending(loan);
            if (l == null) {
                return LoanCases.UNKNOWN;
            }
            if (l.state == 0 || l.state == 3) {
                return LoanCases.TURN;
            }
            int returned = 0;
            l.state = 3;
            l.stuckAt = LoanCases.NONE;
            for (int n = l.wants.size() - 1; n >= 0; n--) {
                Want w = l.wants.get(n);
                if (w.loaded != null && w.box.held == null && !within(w.box, w.loaded)) {
                    w.box.held = w.loaded;
                    w.loaded = null;
                    returned++;
                } else if (w.loaded != null) {
                    l.state = 1;
                    l.stuckAt = n;
                }
            }
            return returned;
        }

        private long told(int loan, int what) {
            Lending l = lending(loan);
            if (l == null) {
                return LoanCases.UNKNOWN;
            }
            return switch (what) {
                case 0 -> l.state;
                case 1 -> l.wants.size();
                case 2 -> l.wants.stream().filter(w -> w.loaded != null).count();
                case 3 -> l.stuckAt;
                default -> LoanCases.OUTSIDE;
            };
        }

        private long van(int loan, int i) {
            Lending l = lending(loan);
            if (l == null) {
                return LoanCases.UNKNOWN;
            }
            return in(i, 0, l.wants.size() - 1) ? number(l.wants.get(i).loaded) : LoanCases.NONE;
        }

        private long count(int what) {
            return switch (what) {
                case 0 -> things.size();
                case 1 -> things.stream().filter(t -> t instanceof Box).count();
                case 2 -> things.stream().filter(t -> t instanceof Box b && b.held != null).count();
                case 3 -> loans.size();
                case 4, 5, 6, 7, 8 -> findings[what - 3];
                default -> LoanCases.OUTSIDE;
            };
        }

        private long clear() {
            int before = things.size();
            things.clear();
            loans.clear();
            java.util.Arrays.fill(findings, 0);
            return before;
        }
    }

    private static long call(LoanCases x, int method, int a, int b, int c, int d, long v) {
        return switch (method) {
            case 0 -> x.thing(a, b);
            case 1 -> x.row(a, b);
            case 2 -> x.makeCase();
            case 3 -> x.is(a, b);
            case 4 -> x.kinds(a);
            case 5 -> x.worth(a, b);
            case 6 -> x.date(a);
            case 7 -> x.size(a, b);
            case 8 -> x.write(a, b, c, v);
            case 9 -> Check.read(x, a, b, c);
            case 10 -> x.hang(a, b, c, d);
            case 11 -> x.at(a, b, c);
            case 12 -> x.deep(a, b, c, d);
            case 13 -> x.fill(a, b);
            case 14 -> x.held(a);
            case 15 -> x.innermost(a, b);
            case 16 -> x.depth(a);
            case 17 -> x.inside(a);
            case 18 -> x.loan();
            case 19 -> x.want(a, b, c);
            case 20 -> x.leave(a);
            case 21 -> x.back(a);
            case 22 -> x.told(a, b);
            case 23 -> x.van(a, b);
            case 24 -> x.count(a);
            default -> x.clear();
        };
    }

    private static final String[] NAMES = {"thing", "row", "makeCase", "is", "kinds", "worth", "date", "size", "write",
        "read", "hang", "at", "deep", "fill", "held", "innermost", "depth", "inside", "loan", "want", "leave", "back",
        "told", "van", "count", "clear"};

    private static final int[] HANGING = {8, 9, 10, 10, 10, 10, 11, 12, 12};
    private static final int[] LENDING = {13, 13, 13, 13, 15, 17, 18, 19, 19, 19, 20, 21, 21, 22, 23, 23};

    /** Draws arguments that mostly fit, and now and then any int. */
    private static final class Draw {
        private final Random random;
        private final boolean boxesMost;
        private final boolean fillsUp;

        Draw(int run) {
            random = new Random(run);
            boxesMost = run % 2 == 1;
            fillsUp = run % 10 < 2;
        }

        int upTo(int low, int high) {
            if (random.nextInt(60) == 0) {
                int[] odd = {-1, LoanCases.NONE, low - 1, high + 1, Integer.MIN_VALUE, Integer.MAX_VALUE, random.nextInt()};
                return odd[random.nextInt(odd.length)];
            }
            return low + random.nextInt(high - low + 1);
        }

        int method(Model m) {
            int p = random.nextInt(400);
            if (p == 0) {
                return 25;
            }
            // A small store is one in which draws meet; now and then a run fills it up.
            if (m.things.size() < 25 ? p < 300 : p < (fillsUp ? 150 : 10)) {
                return boxesMost && p % 2 == 0 ? 2 : random.nextInt(5) < 2 ? 0 : 1;
            }
            if (p % 4 == 0) {
                return 2 + random.nextInt(23);
            }
            int[] likely = boxesMost ? LENDING : HANGING;
            return likely[random.nextInt(likely.length)];
        }

        int known(Model m) {
            return upTo(0, Math.max(0, m.things.size() - 1));
        }

        /** A THING of the KIND, if some tries find one: a blind draw would hardly ever fit. */
        int fitting(Model m, Class<?> kind) {
            for (int tries = 0; tries < 30; tries++) {
                int n = known(m);
                if (kind.isInstance(m.thing(n))) {
                    return n;
                }
            }
            return known(m);
        }

        int lent(Model m) {
            return upTo(0, Math.max(0, m.loans.size() - 1));
        }

        long value() {
            return switch (random.nextInt(4)) {
                case 0 -> random.nextLong();
                case 1 -> random.nextInt();
                case 2 -> (random.nextBoolean() ? 1L : -1L) * (1L << 31) + random.nextInt(3) - 1;
                default -> random.nextInt(10) - 5;
            };
        }

        int[] arguments(int method, Model m) {
            boolean wild = random.nextInt(8) == 0;
            switch (method) {
                case 0: return args(upTo(0, 4), upTo(0, 3000), 0, 0);
                case 1: return args(upTo(5, 17), upTo(-1, 10), 0, 0);
                case 5: return row(m, upTo(0, 3), wild);
                case 7: return row(m, upTo(5, 17), wild);
                case 8: case 9: return row(m, upTo(5, 8), wild);
                case 10: return row(m, random.nextBoolean() ? rowOfRows() : upTo(9, 17), wild);
                case 11: return row(m, upTo(9, 17), wild);
                case 12:
                    int[] four = row(m, rowOfRows(), wild);
                    four[3] = upTo(0, random.nextInt(3) == 0 ? 9 : 2);
                    return four;
                case 13:
                    int filled = fitting(m, Box.class);
                    boolean nested = random.nextInt(2) == 0;
                    int filling = random.nextInt(5) == 0 ? LoanCases.NONE : nested ? fitting(m, Box.class) : known(m);
                    return args(filled, filling, 0, 0);
                case 14: case 15: case 16: case 17: return args(fitting(m, Box.class), upTo(0, 20), 0, 0);
                case 19: return want(m);
                case 20: case 21: return args(lent(m), 0, 0, 0);
                case 22: return args(lent(m), upTo(0, 3), 0, 0);
                case 23: return args(lent(m), upTo(0, 7), 0, 0);
                case 24: return args(upTo(0, 8), 0, 0, 0);
                default: return args(known(m), upTo(0, 20), 0, 0);
            }
        }

        private int[] want(Model m) {
            int box = fitting(m, Box.class);
            int kind = random.nextInt(3) > 0 ? 20 : upTo(0, 20);
            return args(lent(m), box, random.nextInt(3) == 0 ? 18 : kind, 0);
        }

        private int rowOfRows() {
            return new int[] {9, 15, 16, upTo(9, 17)}[random.nextInt(4)];
        }

        private int[] row(Model m, int kind, boolean wild) {
            boolean real = kind >= 0 && kind <= 20 && !wild;
            int first = real ? fitting(m, KINDS[kind]) : known(m);
            Class<?> part = real ? KINDS[kind].getComponentType() : null;
            int other = random.nextInt(8) == 0 || part == null ? known(m) : fitting(m, part);
            other = random.nextInt(20) == 0 ? LoanCases.NONE : other;
            return args(first, kind, upTo(0, random.nextInt(3) == 0 ? 9 : 2), other);
        }

        private static int[] args(int... four) {
            return four;
        }
    }

    public static void main(String[] args) {
        Check c = new Check("ModelTest");
        int[] answered = new int[NAMES.length];
        int[] findings = new int[6];
        for (int run = 0; run < RUNS && c.wrong() == 0; run++) {
            LoanCases x = new LoanCases();
            Model m = new Model();
            Draw draw = new Draw(run);
            for (int step = 0; step < CALLS && c.wrong() == 0; step++) {
                int method = draw.method(m);
                int[] a = draw.arguments(method, m);
                long v = draw.value();
                long want = m.call(method, a[0], a[1], a[2], a[3], v);
                long got = call(x, method, a[0], a[1], a[2], a[3], v);
                String call = "run " + run + " call " + step + " " + NAMES[method] + java.util.Arrays.toString(a) + " " + v;
                c.due(call, got, want);
                if (want >= 1 || (want == 0 && method == 12) || want == Check.CAST || want == Check.INDEX) {
                    answered[method]++;
                }
                if (want <= -31 && want >= -35 && method != 9) {
                    findings[(int) (-30 - want)]++;
                }
            }
        }
        // A draw that never reaches a call's answer or a finding would compare nothing.
        for (int method = 0; method < NAMES.length; method++) {
            c.due("draws that reach an answer of " + NAMES[method], answered[method] > 100 ? 1 : 0, 1);
        }
        for (int finding = 1; finding <= 5; finding++) {
            c.due("draws that reach FINDING " + finding, findings[finding] > 100 ? 1 : 0, 1);
        }
        c.end();
    }
}
