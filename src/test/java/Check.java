/** Counts and prints answers that are not as due; a test ends with exit code 1 if there was one. */
final class Check {
    static final long CAST = Long.MIN_VALUE;
    static final long INDEX = Long.MIN_VALUE + 1;

    private final String name;
    private int wrong;

    Check(String name) {
        this.name = name;
    }

    void due(String call, long got, long want) {
        if (got != want) {
            wrong++;
            System.out.println(name + ": " + call + " answered " + got + ", due is " + want);
        }
    }

    int wrong() {
        return wrong;
    }

    void end() {
        System.out.println(name + ": " + (wrong == 0 ? "all answers are as due" : wrong + " answers are not as due"));
        if (wrong != 0) {
            System.exit(1);
        }
    }

    /** What read answers, with a number of its own for each exception. */
    static long read(LoanCases x, int thing, int kind, int i) {
        try {
            return x.read(thing, kind, i);
        } catch (ClassCastException e) {
            return CAST;
        } catch (ArrayIndexOutOfBoundsException e) {
            return INDEX;
        }
    }
}
