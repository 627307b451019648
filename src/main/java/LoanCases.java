/** A museum's store that lends. DOC.md tells what each call promises; the words in it are used here. */
public final class LoanCases {
    public static final int UNKNOWN = -1, OUTSIDE = -2, TURN = -3, FULL = -4, NONE = -5;

    private static final int WORK = 0, PICTURE = 1, ICON = 2, FIGURE = 3, COIN = 4;
    private static final int LABEL = 5, SIZES = 6, MARKS = 7, READINGS = 8, CHART = 9;
    private static final int WORKS = 10, PICTURES = 11, ICONS = 12, FIGURES = 13, DATED_ONES = 14;
    private static final int WALL = 15, HALL = 16, HOUSE = 17, CASE = 18, DATED = 19, ANY = 20;

    private static final int KIND = 1, NOTHING = 2, PLACE = 3, STORE = 4, SIZE = 5;
    private static final int NO_FINDING = 0, FINDINGS = 5, FINDING_BASE = -30;

    private static final int OPEN = 0, STUCK = 1, OUT = 2, HOME = 3;

    private static final int MOST_THINGS = 110, MOST_PLACES = 10, MOST_LOANS = 8, MOST_WANTS = 8;
    private static final int LAST_YEAR = 3000;

    /** Beside read's exceptions the only objects that calls make: four a LOAN, some 2,000 in an object's 512 calls. */
    private static final class Loan {
        private int state = OPEN;
        private int wants = 0;
        private int stuckAt = NONE;
        private final int[] boxes = new int[MOST_WANTS];
        private final int[] wanted = new int[MOST_WANTS];
        private final int[] load = new int[MOST_WANTS];

        private Loan() {
            for (int w = 0; w < MOST_WANTS; w++) {
                load[w] = NONE;
            }
        }

        private void stick(int want) {
            state = STUCK;
            stuckAt = want;
        }

        private void settle() {
            for (int w = 0; w < MOST_WANTS; w++) {
                if (load[w] != NONE) {
                    stick(w);
                    return;
                }
            }
            state = HOME;
            stuckAt = NONE;
        }

        private int loaded() {
            int n = 0;
            for (int w = 0; w < MOST_WANTS; w++) {
                if (load[w] != NONE) {
                    n++;
                }
            }
            return n;
        }
    }

    private final int[] forms = new int[MOST_THINGS];
    private final int[] years = new int[MOST_THINGS];
    private final int[] sizes = new int[MOST_THINGS];
    private final int[] holds = new int[MOST_THINGS];
    // Every row's places in one array: what a place holds, a number or a THING, always fits an int.
    private final int[] places = new int[MOST_THINGS * MOST_PLACES];
    private int things;
    private final Loan[] loans = new Loan[MOST_LOANS];
    private int begun;
    private final int[] findings = new int[FINDINGS + 1];

    public LoanCases() {
    }

    public int thing(int form, int year) {
        if (!between(form, WORK, COIN) || !between(year, 0, LAST_YEAR)) {
            return OUTSIDE;
        }
        if (things >= MOST_THINGS) {
            return FULL;
        }
        return add(form, year, 0);
    }

    public int row(int form, int n) {
        if (!between(form, LABEL, HOUSE) || n > MOST_PLACES) {
            return OUTSIDE;
        }
        if (things >= MOST_THINGS) {
            return FULL;
        }
        if (n < 0) {
            return found(SIZE);
        }
        return add(form, 0, n);
    }

    public int makeCase() {
        if (things >= MOST_THINGS) {
            return FULL;
        }
        return add(CASE, 0, 0);
    }

    public int is(int thing, int kind) {
        if (!isThing(thing)) {
            return UNKNOWN;
        }
        if (!between(kind, WORK, ANY)) {
            return OUTSIDE;
        }
        return isOf(thing, kind) ? 1 : 0;
    }

    public int kinds(int thing) {
        if (!isThing(thing)) {
            return UNKNOWN;
        }
        int n = 0;
        for (int kind = WORK; kind <= DATED; kind++) {
            if (isOf(thing, kind)) {
                n++;
            }
        }
        return n;
    }

    public int worth(int thing, int kind) {
        if (!isThing(thing)) {
            return UNKNOWN;
        }
        if (!between(kind, WORK, FIGURE)) {
            return OUTSIDE;
        }
        if (!isOf(thing, kind)) {
            return found(KIND);
        }
        return worthOf(forms[thing], years[thing]);
    }

    public int date(int thing) {
        if (!isThing(thing)) {
            return UNKNOWN;
        }
        if (!isOf(thing, DATED)) {
            return found(KIND);
        }
        return forms[thing] == ICON ? years[thing] + 1 : years[thing] - 1;
    }

    public int size(int thing, int kind) {
        if (!isThing(thing)) {
            return UNKNOWN;
        }
        if (!between(kind, LABEL, HOUSE)) {
            return OUTSIDE;
        }
        if (!isOf(thing, kind)) {
            return found(KIND);
        }
        return sizes[thing];
    }

    public int write(int thing, int kind, int i, long v) {
        if (!isThing(thing)) {
            return UNKNOWN;
        }
        if (!between(kind, LABEL, READINGS) || (kind == READINGS && v != (int) v)) {
            return OUTSIDE;
        }
        if (!isOf(thing, kind)) {
            return found(KIND);
        }
        if (!hasPlace(thing, i)) {
            return found(PLACE);
        }
        places[thing * MOST_PLACES + i] = lowestBits(kind, v);
        return 1;
    }

    public long read(int thing, int kind, int i) throws ClassCastException, ArrayIndexOutOfBoundsException {
        if (!isThing(thing) || !between(kind, LABEL, READINGS)) {
            return 0;
        }
        if (!isOf(thing, kind)) {
            throw new ClassCastException("not of the kind for which it is taken");
        }
        if (!hasPlace(thing, i)) {
            throw new ArrayIndexOutOfBoundsException("no such place");
        }
        return places[thing * MOST_PLACES + i];
    }

    public int hang(int thing, int kind, int i, int other) {
        if (!isThing(thing) || !isThingOrNone(other)) {
            return UNKNOWN;
        }
        if (!between(kind, CHART, HOUSE)) {
            return OUTSIDE;
        }
        if (!isOf(thing, kind) || !passesFor(other, partOf(kind))) {
            return found(KIND);
        }
        if (!hasPlace(thing, i)) {
            return found(PLACE);
        }
        if (!passesFor(other, partOf(forms[thing]))) {
            return found(STORE);
        }
        places[thing * MOST_PLACES + i] = other;
        return 1;
    }

    public int at(int thing, int kind, int i) {
        if (!isThing(thing)) {
            return UNKNOWN;
        }
        if (!between(kind, CHART, HOUSE)) {
            return OUTSIDE;
        }
        if (!isOf(thing, kind)) {
            return found(KIND);
        }
        if (!hasPlace(thing, i)) {
            return found(PLACE);
        }
        return places[thing * MOST_PLACES + i];
    }

    public int deep(int thing, int kind, int i, int k) {
        if (!isThing(thing)) {
            return UNKNOWN;
        }
        if (kind != CHART && kind != WALL && kind != HALL) {
            return OUTSIDE;
        }
        if (!isOf(thing, kind)) {
            return found(KIND);
        }
        if (!hasPlace(thing, i)) {
            return found(PLACE);
        }
        int part = places[thing * MOST_PLACES + i];
        if (!isThing(part)) {
            return found(NOTHING);
        }
        if (!hasPlace(part, k)) {
            return found(PLACE);
        }
        return places[part * MOST_PLACES + k];
    }

    public int fill(int box, int thing) {
        if (!isCase(box) || !isThingOrNone(thing)) {
            return UNKNOWN;
        }
        if (leadsTo(thing, box)) {
            return TURN;
        }
        int before = holds[box];
        holds[box] = thing;
        return before;
    }

    public int held(int box) {
        return isCase(box) ? holds[box] : UNKNOWN;
    }

    public int innermost(int box, int kind) {
        if (!isCase(box)) {
            return UNKNOWN;
        }
        if (!between(kind, WORK, ANY)) {
            return OUTSIDE;
        }
        return isOf(innermostOf(box), kind) ? 1 : 0;
    }

    public int depth(int box) {
        if (!isCase(box)) {
            return UNKNOWN;
        }
        int levels = 1;
        int inner = holds[box];
        while (levels < MOST_THINGS && isCase(inner)) {
            inner = holds[inner];
            levels++;
        }
        return levels;
    }

    public int inside(int box) {
        if (!isCase(box)) {
            return UNKNOWN;
        }
        int inner = innermostOf(box);
        if (!isThing(inner)) {
            return found(NOTHING);
        }
        if (!isOf(inner, WORK)) {
            return found(KIND);
        }
        return worthOf(forms[inner], years[inner]);
    }

    public int loan() {
        if (begun >= MOST_LOANS) {
            return FULL;
        }
        loans[begun] = new Loan();
        begun++;
        return begun - 1;
    }

    public int want(int loan, int box, int kind) {
        Loan l = loanOf(loan);
        if (l == null || !isCase(box)) {
            return UNKNOWN;
        }
        if (!between(kind, WORK, ANY)) {
            return OUTSIDE;
        }
        if (l.state != OPEN) {
            return TURN;
        }
        if (l.wants >= MOST_WANTS) {
            return FULL;
        }
        l.boxes[l.wants] = box;
        l.wanted[l.wants] = kind;
        l.wants++;
        return l.wants;
    }

    public int leave(int loan) {
        Loan l = loanOf(loan);
        if (l == null) {
            return UNKNOWN;
        }
        if (l.state != OPEN) {
            return TURN;
        }
        for (int w = 0; w < l.wants; w++) {
            int finding = loadWant(l, w);
            if (finding != NO_FINDING) {
                l.stick(w);
                return found(finding);
            }
        }
        l.state = OUT;
        return 1;
    }

    public int back(int loan) {
        Loan l = loanOf(loan);
        if (l == null) {
            return UNKNOWN;
        }
        if (l.state != STUCK && l.state != OUT) {
            return TURN;
        }
        int returned = 0;
        for (int w = l.wants - 1; w >= 0; w--) {
            if (unloadWant(l, w)) {
                returned++;
            }
        }
        l.settle();
        return returned;
    }

    public int told(int loan, int what) {
        Loan l = loanOf(loan);
        if (l == null) {
            return UNKNOWN;
        }
        switch (what) {
            case 0: return l.state;
            case 1: return l.wants;
            case 2: return l.loaded();
            case 3: return l.stuckAt;
            default: return OUTSIDE;
        }
    }

    public int van(int loan, int i) {
        Loan l = loanOf(loan);
        if (l == null) {
            return UNKNOWN;
        }
        return between(i, 0, MOST_WANTS - 1) ? l.load[i] : NONE;
    }

    public int count(int what) {
        switch (what) {
            case 0: return things;
            case 1: return countCases(false);
            case 2: return countCases(true);
            case 3: return begun;
            default: return between(what, 4, 8) ? findings[what - 3] : OUTSIDE;
        }
    }

    public int clear() {
        int before = things;
        things = 0;
        begun = 0;
        for (int f = 0; f <= FINDINGS; f++) {
            findings[f] = 0;
        }
        return before;
    }

    private static boolean between(int x, int low, int high) {
        return x >= low && x <= high;
    }

    private boolean isThing(int thing) {
        return thing >= 0 && thing < things;
    }

    private boolean isThingOrNone(int thing) {
        return thing == NONE || isThing(thing);
    }

    private boolean isCase(int thing) {
        return isThing(thing) && forms[thing] == CASE;
    }

    private boolean hasPlace(int thing, int i) {
        return i >= 0 && i < sizes[thing];
    }

    private Loan loanOf(int loan) {
        return loan >= 0 && loan < begun ? loans[loan] : null;
    }

    // A slot may have been used ahead of a clear, so all of it is set.
    private int add(int form, int year, int size) {
        int thing = things;
        forms[thing] = form;
        years[thing] = year;
        sizes[thing] = size;
        holds[thing] = NONE;
        int empty = between(form, CHART, HOUSE) ? NONE : 0;
        for (int i = 0; i < size; i++) {
            places[thing * MOST_PLACES + i] = empty;
        }
        things++;
        return thing;
    }

    private int found(int finding) {
        findings[finding]++;
        return FINDING_BASE - finding;
    }

    /** NOTHING is of no KIND, so NONE may be asked, too. */
    private boolean isOf(int thing, int kind) {
        return isThing(thing) && formIs(forms[thing], kind);
    }

    /** NOTHING is of no KIND, but hangs in any row: to take a THING away is never refused for its KIND. */
    private boolean passesFor(int thing, int kind) {
        return thing == NONE || isOf(thing, kind);
    }

    private static boolean formIs(int form, int kind) {
        if (kind == form || kind == ANY) {
            return true;
        }
        switch (form) {
            case PICTURE:
            case FIGURE:
                return kind == WORK;
            case ICON:
                return kind == WORK || kind == PICTURE || kind == DATED;
            case COIN:
                return kind == DATED;
            case PICTURES:
            case FIGURES:
                return kind == WORKS;
            case ICONS:
                return kind == WORKS || kind == PICTURES || kind == DATED_ONES;
            default:
                return false;
        }
    }

    private static int partOf(int rowKind) {
        switch (rowKind) {
            case CHART: return SIZES;
            case WORKS: return WORK;
            case PICTURES: return PICTURE;
            case ICONS: return ICON;
            case FIGURES: return FIGURE;
            case DATED_ONES: return DATED;
            case WALL: return PICTURES;
            case HALL: return DATED_ONES;
            case HOUSE: return WALL;
            default: return NONE;
        }
    }

    private static int worthOf(int form, int year) {
        int ofWork = year + 1;
        switch (form) {
            case PICTURE: return ofWork * 2;
            case ICON: return ofWork * 2 + 100;
            default: return ofWork;
        }
    }

    private static int lowestBits(int kind, long v) {
        switch (kind) {
            case LABEL: return (int) (v & 0xFFFF);
            case SIZES: return (short) v;
            case MARKS: return (int) (v & 1);
            default: return (int) v;
        }
    }

    /** Whether box is thing, or is WITHIN it. A chain of CASES has no ring, so MOST_THINGS steps reach its end. */
    private boolean leadsTo(int thing, int box) {
        int inner = thing;
        for (int steps = 0; steps < MOST_THINGS && inner != box && isCase(inner); steps++) {
            inner = holds[inner];
        }
        return inner == box;
    }

    private int innermostOf(int box) {
        int inner = holds[box];
        for (int steps = 0; steps < MOST_THINGS && isCase(inner); steps++) {
            inner = holds[inner];
        }
        return inner;
    }

    private int loadWant(Loan l, int w) {
        int box = l.boxes[w];
        int thing = holds[box];
        if (thing == NONE) {
            return NOTHING;
        }
        if (!isOf(thing, l.wanted[w])) {
            return KIND;
        }
        l.load[w] = thing;
        holds[box] = NONE;
        return NO_FINDING;
    }

    private boolean unloadWant(Loan l, int w) {
        int thing = l.load[w];
        int box = l.boxes[w];
        if (thing == NONE || holds[box] != NONE || leadsTo(thing, box)) {
            return false;
        }
        holds[box] = thing;
        l.load[w] = NONE;
        return true;
    }

    private int countCases(boolean filledAlone) {
        int n = 0;
        for (int thing = 0; thing < things; thing++) {
            if (forms[thing] == CASE && (!filledAlone || holds[thing] != NONE)) {
                n++;
            }
        }
        return n;
    }
}
