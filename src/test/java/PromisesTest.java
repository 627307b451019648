/** One method for each promise of the document: ordinary inputs, the edges that it names, and wrong inputs. */
public final class PromisesTest {
    private static final int UNKNOWN = -1, OUTSIDE = -2, TURN = -3, FULL = -4, NONE = -5;
    private static final int KIND = -31, NOTHING = -32, PLACE = -33, STORE = -34, SIZE = -35;
    private static final int MIN = Integer.MIN_VALUE, MAX = Integer.MAX_VALUE;

    private static final Check C = new Check("PromisesTest");

    public static void main(String[] args) {
        promise1New();
        promise2Thing();
        promise3Row();
        promise4MakeCase();
        promise5Is();
        promise6Kinds();
        promise7Worth();
        promise8Date();
        promise9Size();
        promise10Write();
        promise11Read();
        promise12Hang();
        promise13At();
        promise14Deep();
        promise15Fill();
        promise16Held();
        promise17Innermost();
        promise18Depth();
        promise19Inside();
        promise20Loan();
        promise21Want();
        promise22Leave();
        promise23Back();
        promise24Told();
        promise25Van();
        promise26Count();
        promise27Clear();
        C.end();
    }

    private static void due(String call, long got, long want) {
        C.due(call, got, want);
    }

    /** THING n is of FORM n, 0 to 18; FORMS 0 to 4 are of YEAR 100 n + 5, rows have 3 places. */
    private static LoanCases oneOfEach() {
        LoanCases x = new LoanCases();
        for (int form = 0; form <= 4; form++) {
            x.thing(form, 100 * form + 5);
        }
        for (int form = 5; form <= 17; form++) {
            x.row(form, 3);
        }
        x.makeCase();
        return x;
    }

    private static LoanCases full() {
        LoanCases x = new LoanCases();
        for (int n = 0; n < 110; n++) {
            due("thing " + n, x.thing(0, 0), n);
        }
        return x;
    }

    private static void findings(String when, LoanCases x, int... want) {
        for (int f = 0; f < 5; f++) {
            due(when + ": count(" + (f + 4) + ")", x.count(f + 4), want[f]);
        }
    }

    private static void promise1New() {
        LoanCases x = new LoanCases();
        for (int what = 0; what <= 8; what++) {
            due("new: count(" + what + ")", x.count(what), 0);
        }
        due("new: is(0, 20)", x.is(0, 20), UNKNOWN);
        due("new: held(0)", x.held(0), UNKNOWN);
        due("new: told(0, 0)", x.told(0, 0), UNKNOWN);
        due("new: van(0, 0)", x.van(0, 0), UNKNOWN);
        due("new: clear()", x.clear(), 0);
        LoanCases y = new LoanCases();
        y.thing(0, 0);
        due("another object's THINGS are its own", x.count(0), 0);
    }

    private static void promise2Thing() {
        LoanCases x = new LoanCases();
        due("thing(0, 0)", x.thing(0, 0), 0);
        due("thing(4, 3000)", x.thing(4, 3000), 1);
        due("thing(-1, 0)", x.thing(-1, 0), OUTSIDE);
        due("thing(5, 0)", x.thing(5, 0), OUTSIDE);
        due("thing(18, 0)", x.thing(18, 0), OUTSIDE);
        due("thing(0, -1)", x.thing(0, -1), OUTSIDE);
        due("thing(0, 3001)", x.thing(0, 3001), OUTSIDE);
        due("thing(MIN, MIN)", x.thing(MIN, MIN), OUTSIDE);
        due("thing(MAX, MAX)", x.thing(MAX, MAX), OUTSIDE);
        due("refused THINGS take no number", x.thing(2, 7), 2);
        LoanCases y = full();
        due("full: thing(0, 0)", y.thing(0, 0), FULL);
        due("full: thing(5, 0)", y.thing(5, 0), OUTSIDE);
        due("full: thing(0, 3001)", y.thing(0, 3001), OUTSIDE);
        due("full: count(0)", y.count(0), 110);
    }

    private static void promise3Row() {
        LoanCases x = new LoanCases();
        int n = 0;
        for (int form = 5; form <= 17; form++) {
            due("row(" + form + ", 0)", x.row(form, 0), n);
            due("row(" + form + ", 10)", x.row(form, 10), n + 1);
            due("its size", x.size(n, form), 0);
            due("its size", x.size(n + 1, form), 10);
            for (int i = 0; i < 10; i++) {
                long at = form <= 8 ? Check.read(x, n + 1, form, i) : x.at(n + 1, form, i);
                due("place " + i + " at first of FORM " + form, at, form <= 8 ? 0 : NONE);
            }
            n += 2;
        }
        due("row(4, 1)", x.row(4, 1), OUTSIDE);
        due("row(18, 1)", x.row(18, 1), OUTSIDE);
        due("row(5, 11)", x.row(5, 11), OUTSIDE);
        due("row(5, MAX)", x.row(5, MAX), OUTSIDE);
        due("row(4, -1)", x.row(4, -1), OUTSIDE);
        findings("refused rows", x, 0, 0, 0, 0, 0);
        due("row(5, -1)", x.row(5, -1), SIZE);
        due("row(17, MIN)", x.row(17, MIN), SIZE);
        findings("rows of a size below 0", x, 0, 0, 0, 0, 2);
        due("count(0)", x.count(0), n);
        for (; n < 110; n++) {
            due("row(8, 10)", x.row(8, 10), n);
        }
        due("the last THING's last place", x.write(109, 8, 9, 1), 1);
        due("row(8, 10) after 110", x.row(8, 10), FULL);
        LoanCases y = full();
        due("full: row(5, 1)", y.row(5, 1), FULL);
        due("full: row(5, -1)", y.row(5, -1), FULL);
        due("full: row(5, 11)", y.row(5, 11), OUTSIDE);
        findings("full", y, 0, 0, 0, 0, 0);
    }

    private static void promise4MakeCase() {
        LoanCases x = new LoanCases();
        x.thing(0, 0);
        due("makeCase()", x.makeCase(), 1);
        due("makeCase()", x.makeCase(), 2);
        due("is(1, 18)", x.is(1, 18), 1);
        due("held(1)", x.held(1), NONE);
        due("full: makeCase()", full().makeCase(), FULL);
        for (int n = 3; n < 110; n++) {
            due("makeCase()", x.makeCase(), n);
        }
        due("makeCase() after 110", x.makeCase(), FULL);
    }

    private static final int[][] KINDS_OF = {
        {0}, {0, 1}, {0, 1, 2, 19}, {0, 3}, {4, 19}, {5}, {6}, {7}, {8}, {9},
        {10}, {10, 11}, {10, 11, 12, 14}, {10, 13}, {14}, {15}, {16}, {17}, {18},
    };

    private static boolean listed(int form, int kind) {
        for (int k : KINDS_OF[form]) {
            if (k == kind) {
                return true;
            }
        }
        return kind == 20;
    }

    private static void promise5Is() {
        LoanCases x = oneOfEach();
        for (int form = 0; form <= 18; form++) {
            for (int kind = 0; kind <= 20; kind++) {
                due("is(" + form + ", " + kind + ")", x.is(form, kind), listed(form, kind) ? 1 : 0);
            }
            due("is(" + form + ", -1)", x.is(form, -1), OUTSIDE);
            due("is(" + form + ", 21)", x.is(form, 21), OUTSIDE);
        }
        due("is(19, 0)", x.is(19, 0), UNKNOWN);
        due("is(-1, 0)", x.is(-1, 0), UNKNOWN);
        due("is(NONE, 20)", x.is(NONE, 20), UNKNOWN);
        due("is(19, 21)", x.is(19, 21), UNKNOWN);
        due("is(MAX, 20)", x.is(MAX, 20), UNKNOWN);
        due("is(MIN, 20)", x.is(MIN, 20), UNKNOWN);
        findings("is", x, 0, 0, 0, 0, 0);
    }

    private static void promise6Kinds() {
        LoanCases x = oneOfEach();
        for (int form = 0; form <= 18; form++) {
            due("kinds(" + form + ")", x.kinds(form), KINDS_OF[form].length);
        }
        due("kinds(19)", x.kinds(19), UNKNOWN);
        due("kinds(-1)", x.kinds(-1), UNKNOWN);
        due("kinds(NONE)", x.kinds(NONE), UNKNOWN);
    }

    private static void promise7Worth() {
        LoanCases x = oneOfEach();
        int[] worth = {6, 212, 512, 306};
        int kindFindings = 0;
        for (int form = 0; form <= 18; form++) {
            for (int kind = 0; kind <= 3; kind++) {
                boolean fits = listed(form, kind);
                due("worth(" + form + ", " + kind + ")", x.worth(form, kind), fits ? worth[form] : KIND);
                kindFindings += fits ? 0 : 1;
            }
        }
        due("worth(0, 4)", x.worth(0, 4), OUTSIDE);
        due("worth(4, 4)", x.worth(4, 4), OUTSIDE);
        due("worth(0, -1)", x.worth(0, -1), OUTSIDE);
        due("worth(0, 20)", x.worth(0, 20), OUTSIDE);
        due("worth(19, 0)", x.worth(19, 0), UNKNOWN);
        due("worth(-1, 9)", x.worth(-1, 9), UNKNOWN);
        findings("worth", x, kindFindings, 0, 0, 0, 0);
        LoanCases y = new LoanCases();
        y.thing(2, 0);
        y.thing(2, 3000);
        due("worth of an ICON of YEAR 0", y.worth(0, 2), 102);
        due("worth of an ICON of YEAR 3000", y.worth(1, 0), 6102);
    }

    private static void promise8Date() {
        LoanCases x = oneOfEach();
        for (int form = 0; form <= 18; form++) {
            due("date(" + form + ")", x.date(form), form == 2 ? 206 : form == 4 ? 404 : KIND);
        }
        due("date(19)", x.date(19), UNKNOWN);
        due("date(-1)", x.date(-1), UNKNOWN);
        due("date(NONE)", x.date(NONE), UNKNOWN);
        findings("date", x, 17, 0, 0, 0, 0);
        LoanCases y = new LoanCases();
        y.thing(4, 0);
        y.thing(2, 3000);
        due("date of a COIN of YEAR 0", y.date(0), -1);
        due("date of an ICON of YEAR 3000", y.date(1), 3001);
    }

    private static void promise9Size() {
        LoanCases x = oneOfEach();
        int kindFindings = 0;
        for (int form = 0; form <= 18; form++) {
            for (int kind = 5; kind <= 17; kind++) {
                boolean fits = listed(form, kind);
                due("size(" + form + ", " + kind + ")", x.size(form, kind), fits ? 3 : KIND);
                kindFindings += fits ? 0 : 1;
            }
        }
        due("size(5, 4)", x.size(5, 4), OUTSIDE);
        due("size(18, 18)", x.size(18, 18), OUTSIDE);
        due("size(5, 20)", x.size(5, 20), OUTSIDE);
        due("size(19, 5)", x.size(19, 5), UNKNOWN);
        due("size(-1, 4)", x.size(-1, 4), UNKNOWN);
        findings("size", x, kindFindings, 0, 0, 0, 0);
    }

    private static void writeThenRead(LoanCases x, int thing, int i, long v, long want) {
        due("write(" + thing + ", " + thing + ", " + i + ", " + v + ")", x.write(thing, thing, i, v), 1);
        due("read(" + thing + ", " + thing + ", " + i + ")", Check.read(x, thing, thing, i), want);
    }

    private static void promise10Write() {
        LoanCases x = oneOfEach();
        writeThenRead(x, 5, 0, 65535, 65535);
        writeThenRead(x, 5, 1, 65536, 0);
        writeThenRead(x, 5, 2, -1, 65535);
        writeThenRead(x, 5, 2, Long.MIN_VALUE + 9, 9);
        writeThenRead(x, 6, 0, 32767, 32767);
        writeThenRead(x, 6, 1, 32768, -32768);
        writeThenRead(x, 6, 2, (1L << 40) - 1, -1);
        writeThenRead(x, 7, 0, 1, 1);
        writeThenRead(x, 7, 1, 2, 0);
        writeThenRead(x, 7, 2, -1, 1);
        writeThenRead(x, 7, 2, Long.MIN_VALUE, 0);
        writeThenRead(x, 8, 0, MAX, MAX);
        writeThenRead(x, 8, 1, MIN, MIN);
        writeThenRead(x, 8, 2, -9, -9);
        due("write(8, 8, 0, 2^31)", x.write(8, 8, 0, 1L << 31), OUTSIDE);
        due("write(8, 8, 0, - 2^31 - 1)", x.write(8, 8, 0, -(1L << 31) - 1), OUTSIDE);
        due("write(8, 8, 0, 2^40)", x.write(8, 8, 0, 1L << 40), OUTSIDE);
        due("a refused write changes nothing", Check.read(x, 8, 8, 0), MAX);
        due("its neighbour is as it was", Check.read(x, 8, 8, 1), MIN);
        due("write(5, 4, 0, 0)", x.write(5, 4, 0, 0), OUTSIDE);
        due("write(9, 9, 0, 0)", x.write(9, 9, 0, 0), OUTSIDE);
        due("write(19, 4, 0, 0)", x.write(19, 4, 0, 0), UNKNOWN);
        due("write(-1, 5, 0, 0)", x.write(-1, 5, 0, 0), UNKNOWN);
        due("OUTSIDE ahead of KIND: write(6, 8, 0, 2^31)", x.write(6, 8, 0, 1L << 31), OUTSIDE);
        due("OUTSIDE ahead of PLACE: write(8, 8, 9, 2^31)", x.write(8, 8, 9, 1L << 31), OUTSIDE);
        findings("refused writes", x, 0, 0, 0, 0, 0);
        due("write(8, 5, 0, 2^31)", x.write(8, 5, 0, 1L << 31), KIND);
        due("write(6, 5, 9, 0)", x.write(6, 5, 9, 0), KIND);
        due("write(0, 5, 0, 0)", x.write(0, 5, 0, 0), KIND);
        due("write(5, 5, 3, 0)", x.write(5, 5, 3, 0), PLACE);
        due("write(5, 5, -1, 0)", x.write(5, 5, -1, 0), PLACE);
        due("write(5, 5, MIN, 0)", x.write(5, 5, MIN, 0), PLACE);
        due("write(5, 5, MAX, 0)", x.write(5, 5, MAX, 0), PLACE);
        findings("writes", x, 3, 0, 4, 0, 0);
        x.row(5, 0);
        due("write at place 0 of none", x.write(19, 5, 0, 0), PLACE);
    }

    private static void promise11Read() {
        LoanCases x = oneOfEach();
        for (int kind = 5; kind <= 8; kind++) {
            x.write(kind, kind, 1, 1);
            due("read(" + kind + ", .., 1)", Check.read(x, kind, kind, 1), 1);
            due("read(" + kind + ", .., 2)", Check.read(x, kind, kind, 2), 0);
            due("read(" + kind + ", .., 3)", Check.read(x, kind, kind, 3), Check.INDEX);
            due("read(" + kind + ", .., -1)", Check.read(x, kind, kind, -1), Check.INDEX);
            due("read(" + kind + ", .., MAX)", Check.read(x, kind, kind, MAX), Check.INDEX);
            for (int thing = 0; thing <= 18; thing++) {
                if (thing != kind) {
                    due("read(" + thing + ", " + kind + ", 0)", Check.read(x, thing, kind, 0), Check.CAST);
                    due("read(" + thing + ", " + kind + ", 9)", Check.read(x, thing, kind, 9), Check.CAST);
                }
            }
            due("read(19, " + kind + ", 0)", Check.read(x, 19, kind, 0), 0);
            due("read(-1, " + kind + ", 9)", Check.read(x, -1, kind, 9), 0);
        }
        due("read(5, 4, 1)", Check.read(x, 5, 4, 1), 0);
        due("read(9, 9, 0)", Check.read(x, 9, 9, 0), 0);
        due("read(9, 9, 7)", Check.read(x, 9, 9, 7), 0);
        due("read(5, 20, 1)", Check.read(x, 5, 20, 1), 0);
        findings("read counts none", x, 0, 0, 0, 0, 0);
    }

    private static void promise12Hang() {
        LoanCases x = oneOfEach();
        int[][] fitting = {{9, 6}, {10, 0}, {10, 1}, {10, 2}, {10, 3}, {11, 1}, {11, 2}, {12, 2}, {13, 3},
            {14, 2}, {14, 4}, {15, 11}, {15, 12}, {16, 14}, {16, 12}, {17, 15}};
        for (int row = 9; row <= 17; row++) {
            for (int other = 0; other <= 18; other++) {
                boolean fits = false;
                for (int[] f : fitting) {
                    fits |= f[0] == row && f[1] == other;
                }
                due("hang(" + row + ", .., 0, " + other + ")", x.hang(row, row, 0, other), fits ? 1 : KIND);
            }
            due("hang(" + row + ", .., 0, NONE)", x.hang(row, row, 0, NONE), 1);
            due("at(" + row + ", .., 0)", x.at(row, row, 0), NONE);
        }
        findings("hang", x, 9 * 19 - fitting.length, 0, 0, 0, 0);
        storeRefusals();
        hangRefusals();
    }

    private static void storeRefusals() {
        LoanCases x = oneOfEach();
        due("hang(11, 10, 0, 0)", x.hang(11, 10, 0, 0), STORE);
        due("hang(11, 10, 0, 3)", x.hang(11, 10, 0, 3), STORE);
        due("hang(12, 10, 0, 1)", x.hang(12, 10, 0, 1), STORE);
        due("hang(12, 11, 0, 1)", x.hang(12, 11, 0, 1), STORE);
        due("hang(12, 14, 0, 4)", x.hang(12, 14, 0, 4), STORE);
        due("hang(13, 10, 0, 2)", x.hang(13, 10, 0, 2), STORE);
        due("a refused hang changes nothing", x.at(12, 12, 0), NONE);
        findings("STORE", x, 0, 0, 0, 6, 0);
        due("PLACE ahead of STORE", x.hang(12, 11, 3, 1), PLACE);
        due("KIND of the other ahead of PLACE", x.hang(12, 11, 3, 0), KIND);
        due("KIND of the first ahead of PLACE", x.hang(10, 11, 3, 1), KIND);
        findings("order", x, 2, 0, 1, 6, 0);
        due("hang(12, 14, 1, 2)", x.hang(12, 14, 1, 2), 1);
        due("hang(12, 10, 2, 2)", x.hang(12, 10, 2, 2), 1);
        due("at(12, 11, 1)", x.at(12, 11, 1), 2);
        due("hang(12, 10, 2, NONE)", x.hang(12, 10, 2, NONE), 1);
        due("at(12, 11, 2)", x.at(12, 11, 2), NONE);
    }

    private static void hangRefusals() {
        LoanCases x = oneOfEach();
        due("hang(19, 10, 0, 0)", x.hang(19, 10, 0, 0), UNKNOWN);
        due("hang(10, 10, 0, 19)", x.hang(10, 10, 0, 19), UNKNOWN);
        due("hang(10, 8, 0, 19)", x.hang(10, 8, 0, 19), UNKNOWN);
        due("hang(10, 10, 0, -1)", x.hang(10, 10, 0, -1), UNKNOWN);
        due("hang(NONE, 10, 0, 0)", x.hang(NONE, 10, 0, 0), UNKNOWN);
        due("hang(10, 8, 0, 0)", x.hang(10, 8, 0, 0), OUTSIDE);
        due("hang(10, 18, 0, 0)", x.hang(10, 18, 0, 0), OUTSIDE);
        due("hang(10, 20, 9, NONE)", x.hang(10, 20, 9, NONE), OUTSIDE);
        findings("refused", x, 0, 0, 0, 0, 0);
        due("hang(10, 11, 0, NONE)", x.hang(10, 11, 0, NONE), KIND);
        due("hang(10, 10, 3, NONE)", x.hang(10, 10, 3, NONE), PLACE);
        due("hang(10, 10, -1, 0)", x.hang(10, 10, -1, 0), PLACE);
        due("hang(10, 10, MIN, 0)", x.hang(10, 10, MIN, 0), PLACE);
        due("hang(0, 10, 0, 0)", x.hang(0, 10, 0, 0), KIND);
        findings("found", x, 2, 0, 3, 0, 0);
    }

    private static void promise13At() {
        LoanCases x = oneOfEach();
        x.hang(12, 12, 1, 2);
        x.hang(9, 9, 2, 6);
        for (int kind : new int[] {10, 11, 12, 14}) {
            due("at(12, " + kind + ", 1)", x.at(12, kind, 1), 2);
            due("at(12, " + kind + ", 0)", x.at(12, kind, 0), NONE);
        }
        due("at(9, 9, 2)", x.at(9, 9, 2), 6);
        due("at(12, 8, 1)", x.at(12, 8, 1), OUTSIDE);
        due("at(12, 18, 1)", x.at(12, 18, 1), OUTSIDE);
        due("at(19, 8, 1)", x.at(19, 8, 1), UNKNOWN);
        due("at(-1, 12, 1)", x.at(-1, 12, 1), UNKNOWN);
        findings("refused", x, 0, 0, 0, 0, 0);
        due("at(12, 13, 1)", x.at(12, 13, 1), KIND);
        due("at(15, 16, 9)", x.at(15, 16, 9), KIND);
        due("at(12, 12, 3)", x.at(12, 12, 3), PLACE);
        due("at(12, 12, -1)", x.at(12, 12, -1), PLACE);
        due("at(12, 12, MAX)", x.at(12, 12, MAX), PLACE);
        findings("found", x, 2, 0, 3, 0, 0);
    }

    private static void promise14Deep() {
        LoanCases x = oneOfEach();
        x.write(6, 6, 2, -7);
        x.hang(9, 9, 0, 6);
        x.hang(12, 12, 1, 2);
        x.hang(15, 15, 1, 12);
        x.hang(16, 16, 2, 12);
        due("deep(9, 9, 0, 2)", x.deep(9, 9, 0, 2), -7);
        due("deep(9, 9, 0, 0)", x.deep(9, 9, 0, 0), 0);
        due("deep(15, 15, 1, 1)", x.deep(15, 15, 1, 1), 2);
        due("deep(15, 15, 1, 0)", x.deep(15, 15, 1, 0), NONE);
        due("deep(16, 16, 2, 1)", x.deep(16, 16, 2, 1), 2);
        x.write(6, 6, 2, 8);
        due("a CHART shows its SIZES as they are now", x.deep(9, 9, 0, 2), 8);
        for (int kind = -1; kind <= 21; kind++) {
            if (kind != 9 && kind != 15 && kind != 16) {
                due("deep(9, " + kind + ", 0, 0)", x.deep(9, kind, 0, 0), OUTSIDE);
            }
        }
        due("deep(19, 17, 0, 0)", x.deep(19, 17, 0, 0), UNKNOWN);
        due("deep(-1, 9, 0, 0)", x.deep(-1, 9, 0, 0), UNKNOWN);
        findings("refused", x, 0, 0, 0, 0, 0);
        due("deep(15, 16, 9, 9)", x.deep(15, 16, 9, 9), KIND);
        due("deep(17, 15, 0, 0)", x.deep(17, 15, 0, 0), KIND);
        due("deep(15, 15, 3, 9)", x.deep(15, 15, 3, 9), PLACE);
        due("deep(15, 15, -1, 0)", x.deep(15, 15, -1, 0), PLACE);
        due("deep(15, 15, 0, 9)", x.deep(15, 15, 0, 9), NOTHING);
        due("deep(9, 9, 1, 0)", x.deep(9, 9, 1, 0), NOTHING);
        due("deep(15, 15, 1, 3)", x.deep(15, 15, 1, 3), PLACE);
        due("deep(9, 9, 0, -1)", x.deep(9, 9, 0, -1), PLACE);
        findings("found", x, 2, 2, 4, 0, 0);
    }

    /** CASES 0, 1, 2 and 3, a WORK 4, a COIN 5, an ICON 6 and LABEL 7. */
    private static LoanCases fourCases() {
        LoanCases x = new LoanCases();
        for (int n = 0; n < 4; n++) {
            x.makeCase();
        }
        x.thing(0, 10);
        x.thing(4, 20);
        x.thing(2, 30);
        x.row(5, 1);
        return x;
    }

    private static void promise15Fill() {
        LoanCases x = fourCases();
        due("fill(0, 4)", x.fill(0, 4), NONE);
        due("fill(0, 7)", x.fill(0, 7), 4);
        due("fill(0, 1)", x.fill(0, 1), 7);
        due("fill(0, 1) again", x.fill(0, 1), 1);
        due("fill(1, 2)", x.fill(1, 2), NONE);
        due("fill(0, 0)", x.fill(0, 0), TURN);
        due("fill(1, 0)", x.fill(1, 0), TURN);
        due("fill(2, 0)", x.fill(2, 0), TURN);
        due("fill(2, 1)", x.fill(2, 1), TURN);
        due("a refused fill changes nothing", x.held(2), NONE);
        due("fill(3, 2): two may hold one", x.fill(3, 2), NONE);
        due("fill(2, 3)", x.fill(2, 3), TURN);
        due("fill(3, 1)", x.fill(3, 1), 2);
        due("fill(0, NONE)", x.fill(0, NONE), 1);
        due("fill(0, NONE) again", x.fill(0, NONE), NONE);
        due("fill(2, 0) now", x.fill(2, 0), NONE);
        due("fill(4, 5)", x.fill(4, 5), UNKNOWN);
        due("fill(8, 5)", x.fill(8, 5), UNKNOWN);
        due("fill(NONE, 5)", x.fill(NONE, 5), UNKNOWN);
        due("fill(0, 8)", x.fill(0, 8), UNKNOWN);
        due("fill(0, -1)", x.fill(0, -1), UNKNOWN);
        due("fill(0, MIN)", x.fill(0, MIN), UNKNOWN);
        findings("fill", x, 0, 0, 0, 0, 0);
        longestChain();
    }

    private static void longestChain() {
        LoanCases x = new LoanCases();
        for (int n = 0; n < 110; n++) {
            x.makeCase();
        }
        for (int n = 0; n < 109; n++) {
            due("fill(" + n + ", " + (n + 1) + ")", x.fill(n, n + 1), NONE);
        }
        due("fill(109, 0)", x.fill(109, 0), TURN);
        due("depth(0)", x.depth(0), 110);
        due("innermost(0, 20)", x.innermost(0, 20), 0);
        due("inside(0)", x.inside(0), NOTHING);
    }

    private static void promise16Held() {
        LoanCases x = fourCases();
        due("held(0)", x.held(0), NONE);
        x.fill(0, 1);
        x.fill(1, 4);
        due("held(0)", x.held(0), 1);
        due("held(1)", x.held(1), 4);
        due("held(4)", x.held(4), UNKNOWN);
        due("held(8)", x.held(8), UNKNOWN);
        due("held(-1)", x.held(-1), UNKNOWN);
        due("held(NONE)", x.held(NONE), UNKNOWN);
    }

    private static void promise17Innermost() {
        LoanCases x = fourCases();
        x.fill(0, 1);
        x.fill(1, 2);
        for (int kind = 0; kind <= 20; kind++) {
            due("NOTHING is of no KIND: innermost(0, " + kind + ")", x.innermost(0, kind), 0);
        }
        x.fill(2, 6);
        for (int box = 0; box <= 2; box++) {
            for (int kind = 0; kind <= 20; kind++) {
                due("innermost(" + box + ", " + kind + ")", x.innermost(box, kind), listed(2, kind) ? 1 : 0);
            }
        }
        due("innermost(0, -1)", x.innermost(0, -1), OUTSIDE);
        due("innermost(0, 21)", x.innermost(0, 21), OUTSIDE);
        due("innermost(4, 21)", x.innermost(4, 21), UNKNOWN);
        due("innermost(8, 0)", x.innermost(8, 0), UNKNOWN);
        due("innermost(-1, 0)", x.innermost(-1, 0), UNKNOWN);
        findings("innermost", x, 0, 0, 0, 0, 0);
    }

    private static void promise18Depth() {
        LoanCases x = fourCases();
        due("depth(0), NOTHING in it", x.depth(0), 1);
        x.fill(0, 4);
        due("depth(0), a WORK in it", x.depth(0), 1);
        x.fill(0, 1);
        due("depth(0), a CASE in it", x.depth(0), 2);
        x.fill(1, 2);
        x.fill(2, 4);
        due("depth(0)", x.depth(0), 3);
        due("depth(2)", x.depth(2), 1);
        due("depth(4)", x.depth(4), UNKNOWN);
        due("depth(8)", x.depth(8), UNKNOWN);
        due("depth(-1)", x.depth(-1), UNKNOWN);
    }

    private static void promise19Inside() {
        LoanCases x = fourCases();
        x.fill(0, 1);
        due("inside(0), NOTHING", x.inside(0), NOTHING);
        due("inside(1), NOTHING", x.inside(1), NOTHING);
        x.fill(1, 4);
        due("inside(0), a WORK", x.inside(0), 11);
        x.fill(1, 6);
        due("inside(0), an ICON", x.inside(0), 162);
        x.fill(1, 5);
        due("inside(0), a COIN", x.inside(0), KIND);
        x.fill(1, 7);
        due("inside(1), a LABEL", x.inside(1), KIND);
        due("inside(4)", x.inside(4), UNKNOWN);
        due("inside(8)", x.inside(8), UNKNOWN);
        due("inside(-1)", x.inside(-1), UNKNOWN);
        findings("inside", x, 2, 2, 0, 0, 0);
    }

    private static void promise20Loan() {
        LoanCases x = new LoanCases();
        for (int n = 0; n < 8; n++) {
            due("loan()", x.loan(), n);
            due("told(" + n + ", 0)", x.told(n, 0), 0);
            due("told(" + n + ", 1)", x.told(n, 1), 0);
        }
        due("loan() after 8", x.loan(), FULL);
        due("count(3)", x.count(3), 8);
        x.leave(0);
        x.back(0);
        due("loan() with one HOME", x.loan(), FULL);
    }

    private static void promise21Want() {
        LoanCases x = fourCases();
        x.loan();
        x.loan();
        for (int n = 1; n <= 8; n++) {
            due("want(0, 0, " + n + ")", x.want(0, 0, n), n);
        }
        due("want(0, 0, 0) after 8", x.want(0, 0, 0), FULL);
        due("want(0, 0, 21) after 8", x.want(0, 0, 21), OUTSIDE);
        due("want(1, 0, 0)", x.want(1, 0, 0), 1);
        due("want(1, 0, 20)", x.want(1, 0, 20), 2);
        due("want(1, 0, -1)", x.want(1, 0, -1), OUTSIDE);
        due("want(1, 0, 21)", x.want(1, 0, 21), OUTSIDE);
        due("want(2, 0, 0)", x.want(2, 0, 0), UNKNOWN);
        due("want(-1, 0, 0)", x.want(-1, 0, 0), UNKNOWN);
        due("want(1, 4, 21)", x.want(1, 4, 21), UNKNOWN);
        due("want(1, 8, 0)", x.want(1, 8, 0), UNKNOWN);
        due("want(1, NONE, 0)", x.want(1, NONE, 0), UNKNOWN);
        due("told(1, 1)", x.told(1, 1), 2);
        x.leave(0);
        due("want(0, 0, 0), STUCK, with 8 WANTS", x.want(0, 0, 0), TURN);
        due("want(0, 0, 21), STUCK", x.want(0, 0, 21), OUTSIDE);
        due("want(0, 4, 0), STUCK", x.want(0, 4, 0), UNKNOWN);
        x.back(0);
        due("want(0, 0, 0), HOME", x.want(0, 0, 0), TURN);
        x.loan();
        x.leave(2);
        due("want(2, 0, 0), OUT", x.want(2, 0, 0), TURN);
    }

    private static void promise22Leave() {
        LoanCases x = fourCases();
        x.fill(0, 4);
        x.fill(1, 6);
        x.fill(2, 5);
        x.loan();
        x.want(0, 1, 19);
        x.want(0, 0, 20);
        due("leave(0)", x.leave(0), 1);
        due("OUT", x.told(0, 0), 2);
        due("van(0, 0)", x.van(0, 0), 6);
        due("van(0, 1)", x.van(0, 1), 4);
        due("held(0)", x.held(0), NONE);
        due("held(1)", x.held(1), NONE);
        due("held(2)", x.held(2), 5);
        due("leave(0), OUT", x.leave(0), TURN);
        x.back(0);
        due("leave(0), HOME", x.leave(0), TURN);
        due("leave(1)", x.leave(1), UNKNOWN);
        due("leave(-1)", x.leave(-1), UNKNOWN);
        findings("leave", x, 0, 0, 0, 0, 0);
        leaveAndStick(x);
        leaveWithNoWants();
    }

    private static void leaveAndStick(LoanCases x) {
        x.loan();
        x.want(1, 0, 0);
        x.want(1, 2, 2);
        x.want(1, 1, 2);
        due("leave(1), a COIN for an ICON", x.leave(1), KIND);
        due("STUCK", x.told(1, 0), 1);
        due("at WANT 1", x.told(1, 3), 1);
        due("that ahead is in the VAN", x.van(1, 0), 4);
        due("the COIN stays", x.held(2), 5);
        due("that behind stays", x.held(1), 6);
        due("leave(1), STUCK", x.leave(1), TURN);
        findings("KIND", x, 1, 0, 0, 0, 0);
        x.loan();
        x.want(2, 1, 18);
        due("a CASE's own INNERMOST is not asked", x.leave(2), KIND);
        x.loan();
        x.want(3, 3, 20);
        due("leave(3), NOTHING", x.leave(3), NOTHING);
        due("STUCK at WANT 0", x.told(3, 3), 0);
        x.loan();
        x.want(4, 1, 2);
        x.want(4, 1, 2);
        due("leave(4), one CASE twice", x.leave(4), NOTHING);
        due("STUCK at WANT 1", x.told(4, 3), 1);
        findings("NOTHING", x, 2, 2, 0, 0, 0);
    }

    private static void leaveWithNoWants() {
        LoanCases x = new LoanCases();
        x.loan();
        due("leave(0), no WANTS", x.leave(0), 1);
        due("OUT", x.told(0, 0), 2);
    }

    private static void promise23Back() {
        LoanCases x = fourCases();
        x.fill(0, 4);
        x.fill(1, 6);
        x.loan();
        x.want(0, 0, 0);
        x.want(0, 1, 0);
        x.want(0, 2, 0);
        due("back(0), OPEN", x.back(0), TURN);
        due("back(1)", x.back(1), UNKNOWN);
        due("back(-1)", x.back(-1), UNKNOWN);
        x.leave(0);
        x.fill(0, 7);
        due("back(0), a CASE is taken", x.back(0), 1);
        due("STUCK", x.told(0, 0), 1);
        due("at WANT 0", x.told(0, 3), 0);
        due("held(0)", x.held(0), 7);
        due("held(1)", x.held(1), 6);
        due("van(0, 0)", x.van(0, 0), 4);
        due("van(0, 1)", x.van(0, 1), NONE);
        due("back(0), still taken", x.back(0), 0);
        x.fill(0, NONE);
        due("back(0)", x.back(0), 1);
        due("held(0)", x.held(0), 4);
        due("HOME", x.told(0, 0), 3);
        due("back(0), HOME", x.back(0), TURN);
        x.loan();
        x.want(1, 3, 0);
        x.leave(1);
        due("back(1), STUCK with none in the VAN", x.back(1), 0);
        due("HOME", x.told(1, 0), 3);
        due("not STUCK any more", x.told(1, 3), NONE);
        backToTheFirstLeft();
        backFromTheLast();
        backOfWhatHoldsTheCase();
    }

    private static void backToTheFirstLeft() {
        LoanCases x = fourCases();
        x.fill(0, 4);
        x.fill(1, 5);
        x.fill(2, 6);
        x.loan();
        x.want(0, 0, 20);
        x.want(0, 1, 20);
        x.want(0, 2, 20);
        x.leave(0);
        x.fill(1, 7);
        x.fill(2, 7);
        due("back(0), OUT, two are taken", x.back(0), 1);
        due("STUCK at the first whose THING is left", x.told(0, 3), 1);
        due("told(0, 2)", x.told(0, 2), 2);
    }

    private static void backFromTheLast() {
        LoanCases x = fourCases();
        x.fill(0, 2);
        x.fill(1, 3);
        x.loan();
        x.want(0, 0, 18);
        x.want(0, 1, 18);
        x.leave(0);
        // Each comes to a CASE that is not within it until the other has come: the last in the VAN comes first.
        x.fill(2, 1);
        x.fill(3, 0);
        due("back(0)", x.back(0), 1);
        due("the last came back", x.held(1), 3);
        due("the first stays, as its CASE is within it now", x.van(0, 0), 2);
        due("held(0)", x.held(0), NONE);
        due("STUCK at WANT 0", x.told(0, 3), 0);
    }

    private static void backOfWhatHoldsTheCase() {
        LoanCases x = fourCases();
        x.fill(0, 1);
        x.fill(1, 2);
        x.loan();
        x.want(0, 0, 18);
        x.leave(0);
        x.fill(2, 0);
        due("back(0), its CASE is deep within the THING", x.back(0), 0);
        due("STUCK", x.told(0, 0), 1);
        due("van(0, 0)", x.van(0, 0), 1);
        due("held(0)", x.held(0), NONE);
        x.fill(1, NONE);
        due("back(0), no more within", x.back(0), 1);
        due("held(0)", x.held(0), 1);
    }

    private static void promise24Told() {
        LoanCases x = fourCases();
        x.fill(0, 4);
        x.fill(1, 5);
        x.loan();
        x.want(0, 0, 20);
        x.want(0, 1, 20);
        told("OPEN", x, 0, 2, 0, NONE);
        x.leave(0);
        told("OUT", x, 2, 2, 2, NONE);
        x.fill(1, 6);
        x.back(0);
        told("STUCK", x, 1, 2, 1, 1);
        x.fill(1, NONE);
        x.back(0);
        told("HOME", x, 3, 2, 0, NONE);
        due("told(0, -1)", x.told(0, -1), OUTSIDE);
        due("told(0, 4)", x.told(0, 4), OUTSIDE);
        due("told(1, 4)", x.told(1, 4), UNKNOWN);
        due("told(-1, 0)", x.told(-1, 0), UNKNOWN);
        due("told(MAX, 0)", x.told(MAX, 0), UNKNOWN);
    }

    private static void told(String when, LoanCases x, int state, int wants, int loaded, int stuckAt) {
        due(when + ": told(0, 0)", x.told(0, 0), state);
        due(when + ": told(0, 1)", x.told(0, 1), wants);
        due(when + ": told(0, 2)", x.told(0, 2), loaded);
        due(when + ": told(0, 3)", x.told(0, 3), stuckAt);
    }

    private static void promise25Van() {
        LoanCases x = fourCases();
        x.fill(0, 4);
        x.fill(1, 5);
        x.loan();
        x.loan();
        x.want(0, 0, 20);
        x.want(0, 1, 20);
        due("van(0, 0), OPEN", x.van(0, 0), NONE);
        x.leave(0);
        due("van(0, 0)", x.van(0, 0), 4);
        due("van(0, 1)", x.van(0, 1), 5);
        due("van(1, 0)", x.van(1, 0), NONE);
        for (int i : new int[] {-1, 2, 7, 8, NONE, MIN, MAX}) {
            due("van(0, " + i + ")", x.van(0, i), NONE);
        }
        due("van(2, 0)", x.van(2, 0), UNKNOWN);
        due("van(-1, -1)", x.van(-1, -1), UNKNOWN);
        x.back(0);
        due("van(0, 0), HOME", x.van(0, 0), NONE);
        vanOfEight();
    }

    private static void vanOfEight() {
        LoanCases x = new LoanCases();
        x.loan();
        for (int n = 0; n < 8; n++) {
            int box = x.makeCase();
            x.fill(box, x.thing(0, n));
            x.want(0, box, 0);
        }
        due("leave(0), 8 WANTS", x.leave(0), 1);
        for (int n = 0; n < 8; n++) {
            due("van(0, " + n + ") of 8", x.van(0, n), 2 * n + 1);
        }
        due("told(0, 2) of 8", x.told(0, 2), 8);
        due("back(0) of 8", x.back(0), 8);
    }

    private static void promise26Count() {
        LoanCases x = fourCases();
        x.fill(0, 4);
        x.fill(1, 0);
        x.loan();
        due("count(0)", x.count(0), 8);
        due("count(1)", x.count(1), 4);
        due("count(2)", x.count(2), 2);
        due("count(3)", x.count(3), 1);
        x.fill(0, NONE);
        due("count(2), one emptied", x.count(2), 1);
        due("count(-1)", x.count(-1), OUTSIDE);
        due("count(9)", x.count(9), OUTSIDE);
        due("count(MIN)", x.count(MIN), OUTSIDE);
        due("count(MAX)", x.count(MAX), OUTSIDE);
        x.row(12, 1);
        for (int n = 0; n < 2; n++) {
            x.date(4);
        }
        for (int n = 0; n < 3; n++) {
            x.inside(0);
        }
        for (int n = 0; n < 4; n++) {
            x.write(7, 5, 1, 0);
        }
        x.thing(1, 0);
        for (int n = 0; n < 5; n++) {
            x.hang(8, 11, 0, 9);
        }
        for (int n = 0; n < 6; n++) {
            x.row(5, -1);
        }
        Check.read(x, 4, 5, 0);
        Check.read(x, 7, 5, 1);
        findings("count", x, 2, 3, 4, 5, 6);
    }

    private static void promise27Clear() {
        LoanCases x = fourCases();
        x.row(9, 2);
        x.write(7, 5, 0, 9);
        x.fill(0, 1);
        x.fill(1, 2);
        x.loan();
        x.want(0, 1, 18);
        x.leave(0);
        x.date(4);
        x.row(5, -1);
        due("clear()", x.clear(), 9);
        for (int what = 0; what <= 8; what++) {
            due("cleared: count(" + what + ")", x.count(what), 0);
        }
        due("cleared: is(0, 20)", x.is(0, 20), UNKNOWN);
        due("cleared: held(0)", x.held(0), UNKNOWN);
        due("cleared: told(0, 0)", x.told(0, 0), UNKNOWN);
        due("clear() again", x.clear(), 0);
        due("makeCase()", x.makeCase(), 0);
        due("held(0)", x.held(0), NONE);
        for (int n = 1; n < 7; n++) {
            x.row(5, 0);
        }
        due("row(5, 1)", x.row(5, 1), 7);
        due("what was written is gone", Check.read(x, 7, 5, 0), 0);
        due("loan()", x.loan(), 0);
        due("told(0, 0)", x.told(0, 0), 0);
        due("told(0, 1)", x.told(0, 1), 0);
        due("told(0, 2)", x.told(0, 2), 0);
        due("told(0, 3)", x.told(0, 3), NONE);
        due("van(0, 0)", x.van(0, 0), NONE);
    }
}
