/** Boundary cases of promises 20 to 25: LOANS, their WANTS, and their VANS. */
final class LoanEdges extends Edges {
    private static final int[] NO_LOANS = {1, 2, 7, 8, -1, NONE, MIN, MAX};

    /** fourCases with the WORK in 0, the COIN in 1, the ICON in 2, NOTHING in 3, and LOAN 0. */
    private static Story stocked(String sentence) {
        Story s = fourCases(sentence).does("fill(0, 4)", NONE).does("fill(1, 5)", NONE).does("fill(2, 6)", NONE);
        return s.does("loan()", 0);
    }

    /** WANTS of LOAN 0, kinds[n] of CASE boxes[n]. */
    private static Story wants(Story s, int[] boxes, int[] kinds) {
        for (int n = 0; n < boxes.length; n++) {
            s.does("want(0, " + boxes[n] + ", " + kinds[n] + ")", n + 1);
        }
        return s;
    }

    /** stocked, with WANTS of CASES 0, 1 and 2: LOAN 0 is OPEN. */
    private static Story open(String sentence) {
        return wants(stocked(sentence), new int[] {0, 1, 2}, new int[] {0, 19, 20});
    }

    private static Story out(String sentence) {
        return open(sentence).does("leave(0)", 1);
    }

    /** LOAN 0 is STUCK at its WANT 1, the WORK is in its VAN, the ICON is still in CASE 2. */
    private static Story stuck(String sentence) {
        Story s = wants(stocked(sentence), new int[] {0, 1, 2}, new int[] {0, 0, 20});
        return s.does("leave(0)", KIND);
    }

    private static Story home(String sentence) {
        return out(sentence).does("back(0)", 3);
    }

    private static Story told(Story s, int state, int wants, int loaded, int stuckAt) {
        s.asked("told(0, 0)", state).asked("told(0, 1)", wants);
        return s.asked("told(0, 2)", loaded).asked("told(0, 3)", stuckAt);
    }

    private static Story van(Story s, int... things) {
        for (int w = 0; w < things.length; w++) {
            s.asked("van(0, " + w + ")", things[w]);
        }
        return s;
    }

    private static Story held(Story s, int... things) {
        for (int box = 0; box < things.length; box++) {
            s.asked("held(" + box + ")", things[box]);
        }
        return s;
    }

    /** LOAN 0 with eight WANTS: CASES 0, 2, .., 14, each with the WORK behind it. */
    private static Story eightWants(String sentence) {
        Story s = new Story(sentence).does("loan()", 0);
        for (int n = 0; n < 8; n++) {
            s.does("makeCase()", 2 * n).does("thing(0, " + n + ")", 2 * n + 1);
            s.does("fill(" + 2 * n + ", " + (2 * n + 1) + ")", NONE);
            s.does("want(0, " + 2 * n + ", 0)", n + 1);
        }
        return s;
    }

    private static Story eightLoans(String sentence) {
        Story s = fourCases(sentence);
        for (int n = 0; n < 8; n++) {
            s.does("loan()", n);
        }
        return s;
    }

    static Story p20EightAtMost() {
        Story s = eightLoans("A LOAN (8 at most, numbered as they are begun)").asked("told(7, 0)", OPEN);
        return s.refused("loan()", FULL).refused("loan()", FULL).asked("count(3)", 8);
    }

    static Story p20EightThoughAllAreHome() {
        Story s = eightLoans("loan: FULL");
        for (int n = 0; n < 8; n++) {
            s.does("leave(" + n + ")", 1).does("back(" + n + ")", 0);
        }
        return s.refused("loan()", FULL).asked("count(3)", 8);
    }

    static Story p20OpenAndEmptyAtFirst() {
        Story s = new Story("It is OPEN at first").does("loan()", 0);
        return van(told(s, OPEN, 0, 0, NONE), NONE, NONE, NONE, NONE, NONE, NONE, NONE, NONE);
    }

    static Story p20BegunInAFullStore() {
        Story s = full("loan: FULL");
        for (int n = 0; n < 8; n++) {
            s.does("loan()", n);
        }
        return s.refused("loan()", FULL).asked("count(3)", 8);
    }

    static Story p21EightWantsAtMost() {
        Story s = eightWants("WANTS (8 at most)").asked("told(0, 1)", 8);
        return s.refused("want(0, 0, 0)", FULL).refused("want(0, 14, 20)", FULL).asked("told(0, 1)", 8);
    }

    static Story p21EightWantsOfEachLoan() {
        Story s = eightWants("WANTS (8 at most)").does("loan()", 1).refused("want(0, 0, 0)", FULL);
        return s.does("want(1, 0, 0)", 1).does("want(1, 0, 0)", 2).asked("told(0, 1)", 8);
    }

    static Story p21OneCaseTwiceAndAnEmptyOne() {
        Story s = stocked("A WANT of an OPEN LOAN: how many it has").does("want(0, 3, 20)", 1);
        return s.does("want(0, 0, 0)", 2).does("want(0, 0, 0)", 3).asked("told(0, 1)", 3);
    }

    static Story p21KindTooSmall() {
        Story s = open("OUTSIDE: KIND (0 .. 20)").refused("want(0, 0, -1)", OUTSIDE);
        return s.refused("want(0, 0, " + MIN + ")", OUTSIDE).does("want(0, 3, 0)", 4).refused("want(0, 0, -1)", OUTSIDE);
    }

    static Story p21KindTooLarge() {
        Story s = open("OUTSIDE: KIND (0 .. 20)").refused("want(0, 0, 21)", OUTSIDE);
        return s.refused("want(0, 0, " + MAX + ")", OUTSIDE).does("want(0, 3, 20)", 4).refused("want(0, 0, 21)", OUTSIDE);
    }

    static Story p21UnknownLoan() {
        Story s = open("UNKNOWN: LOAN, CASE");
        for (int l : NO_LOANS) {
            s.refused("want(" + l + ", 0, 0)", UNKNOWN);
        }
        return s;
    }

    static Story p21UnknownCase() {
        Story s = open("UNKNOWN: LOAN, CASE");
        for (int box : new int[] {4, 5, 6, 7, 8, 110, -1, NONE, MIN, MAX}) {
            s.refused("want(0, " + box + ", 0)", UNKNOWN);
        }
        return s;
    }

    static Story p21StuckIsNotNow() {
        return stuck("A WANT of an OPEN LOAN .. TURN").refused("want(0, 0, 0)", TURN).refused("want(0, 3, 20)", TURN);
    }

    static Story p21OutIsNotNow() {
        return out("A WANT of an OPEN LOAN .. TURN").refused("want(0, 0, 0)", TURN).refused("want(0, 3, 20)", TURN);
    }

    static Story p21HomeIsNotNow() {
        return home("A WANT of an OPEN LOAN .. TURN").refused("want(0, 0, 0)", TURN).refused("want(0, 3, 20)", TURN);
    }

    static Story p21UnknownAheadOfOutside() {
        Story s = open("UNKNOWN .., OUTSIDE ..: the first of these that fits").refused("want(1, 0, 21)", UNKNOWN);
        return s.refused("want(0, 4, -1)", UNKNOWN).refused("want(1, 8, 21)", UNKNOWN);
    }

    static Story p21UnknownAndOutsideAheadOfTurn() {
        Story s = out("OUTSIDE .., TURN ..: the first of these that fits").refused("want(0, 4, 0)", UNKNOWN);
        return s.refused("want(0, 8, 21)", UNKNOWN).refused("want(0, 0, 21)", OUTSIDE).refused("want(0, 0, -1)", OUTSIDE);
    }

    static Story p21UnknownAndOutsideAheadOfFull() {
        Story s = eightWants("UNKNOWN .., OUTSIDE .., FULL: the first of these that fits");
        s.refused("want(0, 1, 0)", UNKNOWN).refused("want(0, 16, 21)", UNKNOWN);
        return s.refused("want(0, 0, 21)", OUTSIDE).refused("want(0, 0, -1)", OUTSIDE).refused("want(0, 0, 0)", FULL);
    }

    static Story p21TurnAheadOfFull() {
        Story s = eightWants("TURN .., FULL: the first of these that fits").refused("want(0, 0, 0)", FULL);
        s.does("leave(0)", 1).refused("want(0, 0, 0)", TURN);
        return s.does("back(0)", 8).refused("want(0, 0, 0)", TURN);
    }

    static Story p22NoWants() {
        Story s = stocked("WANT by WANT, in order .. else it is OUT").does("leave(0)", 1);
        return held(told(s, OUT, 0, 0, NONE), 4, 5, 6, NONE);
    }

    static Story p22EightWants() {
        Story s = eightWants("comes into the VAN of the LOAN; the CASE holds NOTHING then").does("leave(0)", 1);
        told(s, OUT, 8, 8, NONE).asked("count(2)", 0);
        return van(s, 1, 3, 5, 7, 9, 11, 13, 15);
    }

    static Story p22KindStopsItAtTheFirst() {
        Story s = wants(stocked("KIND or NOTHING stops it"), new int[] {1, 0}, new int[] {0, 0});
        told(s.does("leave(0)", KIND), STUCK, 2, 0, 0).asked("count(4)", 1);
        return held(van(s, NONE, NONE), 4, 5, 6, NONE);
    }

    static Story p22KindStopsItWithThoseAheadInTheVan() {
        Story s = stuck("it is STUCK at that WANT (those ahead stay in the VAN)");
        told(s, STUCK, 3, 1, 1).asked("count(4)", 1);
        return held(van(s, 4, NONE, NONE), NONE, 5, 6, NONE);
    }

    static Story p22KindStopsItAtTheEighth() {
        Story s = eightWants("it is STUCK at that WANT (those ahead stay in the VAN)").does("thing(4, 0)", 16);
        s.does("fill(14, 16)", 15).does("leave(0)", KIND);
        return van(told(s, STUCK, 8, 7, 7), 1, 3, 5, 7, 9, 11, 13, NONE).asked("held(14)", 16);
    }

    static Story p22NothingStopsItAtTheFirst() {
        Story s = wants(stocked("KIND or NOTHING stops it"), new int[] {3, 0}, new int[] {20, 0});
        told(s.does("leave(0)", NOTHING), STUCK, 2, 0, 0).asked("count(5)", 1).asked("count(4)", 0);
        return held(van(s, NONE, NONE), 4, 5, 6, NONE);
    }

    static Story p22NothingStopsItWithThoseAheadInTheVan() {
        Story s = wants(stocked("KIND or NOTHING stops it"), new int[] {2, 1, 3, 0}, new int[] {2, 4, 0, 0});
        told(s.does("leave(0)", NOTHING), STUCK, 4, 2, 2).asked("count(5)", 1);
        return held(van(s, 6, 5, NONE, NONE), 4, NONE, NONE, NONE);
    }

    static Story p22OneCaseTwiceHoldsNothingThen() {
        Story s = wants(stocked("the CASE holds NOTHING then"), new int[] {0, 0}, new int[] {0, 0});
        return van(told(s.does("leave(0)", NOTHING), STUCK, 2, 1, 1), 4, NONE);
    }

    static Story p22OneThingInTwoCasesComesTwice() {
        Story s = stocked("what the CASE holds is taken for the KIND, and comes into the VAN").does("fill(3, 4)", NONE);
        wants(s, new int[] {0, 3}, new int[] {0, 0}).does("leave(0)", 1);
        return held(van(told(s, OUT, 2, 2, NONE), 4, 4), NONE, 5, 6, NONE);
    }

    static Story p22WhatTheCaseHoldsNotItsInnermost() {
        Story s = stocked("what the CASE holds is taken for the KIND").does("fill(3, 0)", NONE);
        wants(s, new int[] {3}, new int[] {0}).does("leave(0)", KIND);
        return held(told(s, STUCK, 1, 0, 0), 4, 5, 6, 0);
    }

    static Story p22ACaseAndThenWhatIsInIt() {
        Story s = stocked("what the CASE holds is taken for the KIND").does("fill(3, 0)", NONE);
        wants(s, new int[] {3, 0}, new int[] {18, 0}).does("leave(0)", 1);
        return held(van(s, 0, 4), NONE, 5, 6, NONE);
    }

    static Story p22WhatIsInTheCaseWhenItLeaves() {
        Story s = stocked("It LEAVES .. what the CASE holds").does("want(0, 3, 19)", 1).does("fill(3, 4)", NONE);
        return van(s.does("fill(3, 6)", 4).does("leave(0)", 1), 6);
    }

    static Story p22ACoinForEightKinds() {
        Story s = oneOfEach("taken for the KIND").does("makeCase()", 19);
        for (int n = 0; n < 8; n++) {
            s.does("loan()", n);
        }
        // A COIN is a COIN, DATED, any THING, and nothing else.
        int[] kinds = {4, 19, 20, 0, 5, 14, 18, 12};
        for (int n = 0; n < 8; n++) {
            s.does("fill(19, 4)", n < 4 ? NONE : 4).does("want(" + n + ", 19, " + kinds[n] + ")", 1);
            s.does("leave(" + n + ")", n < 3 ? 1 : KIND).asked("told(" + n + ", 0)", n < 3 ? OUT : STUCK);
        }
        return s.asked("count(4)", 5);
    }

    static Story p22StuckIsNotNow() {
        return held(van(stuck("leave: TURN").refused("leave(0)", TURN), 4, NONE), NONE, 5, 6);
    }

    static Story p22StuckIsNotNowThoughItWouldLeave() {
        Story s = stuck("leave: TURN").does("fill(1, 4)", 5).does("fill(0, 4)", NONE).refused("leave(0)", TURN);
        return held(told(s, STUCK, 3, 1, 1), 4, 4, 6);
    }

    static Story p22OutIsNotNow() {
        return told(out("leave: TURN").refused("leave(0)", TURN), OUT, 3, 3, NONE).asked("count(5)", 0);
    }

    static Story p22HomeIsNotNow() {
        return held(told(home("leave: TURN").refused("leave(0)", TURN), HOME, 3, 0, NONE), 4, 5, 6);
    }

    static Story p22Unknown() {
        Story s = open("leave: UNKNOWN");
        for (int l : NO_LOANS) {
            s.refused("leave(" + l + ")", UNKNOWN);
        }
        return s;
    }

    static Story p23OpenIsNotNow() {
        return held(told(open("TURN: it is OPEN or HOME").refused("back(0)", TURN), OPEN, 3, 0, NONE), 4, 5, 6);
    }

    static Story p23HomeIsNotNow() {
        return held(told(home("TURN: it is OPEN or HOME").refused("back(0)", TURN), HOME, 3, 0, NONE), 4, 5, 6);
    }

    static Story p23Unknown() {
        Story s = out("back: UNKNOWN");
        for (int l : NO_LOANS) {
            s.refused("back(" + l + ")", UNKNOWN);
        }
        return s;
    }

    static Story p23NoWants() {
        Story s = stocked("with none left in it it is HOME").does("leave(0)", 1).does("back(0)", 0);
        return told(s, HOME, 0, 0, NONE);
    }

    static Story p23EightWants() {
        Story s = eightWants("how many THINGS did").does("leave(0)", 1).does("back(0)", 8).asked("count(2)", 8);
        return told(s, HOME, 8, 0, NONE).asked("held(0)", 1).asked("held(14)", 15);
    }

    static Story p23StuckWithNoneInTheVan() {
        Story s = wants(stocked("with none left in it it is HOME"), new int[] {3}, new int[] {20});
        return told(s.does("leave(0)", NOTHING).does("back(0)", 0), HOME, 1, 0, NONE);
    }

    static Story p23StuckWithSomeInTheVan() {
        Story s = stuck("It COMES BACK (STUCK or OUT)").does("back(0)", 1);
        return held(van(told(s, HOME, 3, 0, NONE), NONE, NONE, NONE), 4, 5, 6, NONE);
    }

    static Story p23Out() {
        Story s = out("It COMES BACK (STUCK or OUT)").does("back(0)", 3);
        return held(van(told(s, HOME, 3, 0, NONE), NONE, NONE, NONE), 4, 5, 6, NONE);
    }

    static Story p23ACaseThatHoldsSomething() {
        Story s = out("if that holds NOTHING .. (else it STAYS in the VAN)").does("fill(1, 7)", NONE).does("back(0)", 2);
        return held(van(told(s, STUCK, 3, 1, 1), NONE, 5, NONE), 4, 7, 6, NONE);
    }

    static Story p23ACaseThatHoldsTheThingItself() {
        Story s = out("if that holds NOTHING .. (else it STAYS in the VAN)").does("fill(1, 5)", NONE).does("back(0)", 2);
        return held(van(told(s, STUCK, 3, 1, 1), NONE, 5, NONE), 4, 5, 6, NONE);
    }

    static Story p23NoneComesBack() {
        Story s = out("STUCK at the first WANT whose THING is left");
        s.does("fill(0, 7)", NONE).does("fill(1, 7)", NONE).does("fill(2, 7)", NONE).does("back(0)", 0);
        return held(van(told(s, STUCK, 3, 3, 0), 4, 5, 6), 7, 7, 7, NONE);
    }

    static Story p23TheFirstThatIsLeft() {
        Story s = out("STUCK at the first WANT whose THING is left");
        s.does("fill(1, 7)", NONE).does("fill(2, 7)", NONE).does("back(0)", 1);
        return van(told(s, STUCK, 3, 2, 1), NONE, 5, 6);
    }

    static Story p23TheLastIsLeft() {
        Story s = eightWants("STUCK at the first WANT whose THING is left").does("leave(0)", 1);
        return told(s.does("fill(14, 1)", NONE).does("back(0)", 7), STUCK, 8, 1, 7).asked("van(0, 7)", 15);
    }

    static Story p23StuckAnewAtAnotherWant() {
        Story s = stuck("STUCK at the first WANT whose THING is left").does("fill(0, 7)", NONE).does("back(0)", 0);
        return held(van(told(s, STUCK, 3, 1, 0), 4, NONE, NONE), 7, 5, 6);
    }

    static Story p23BackAgainUntilHome() {
        Story s = out("It COMES BACK (STUCK or OUT)").does("fill(0, 7)", NONE).does("fill(2, 7)", NONE);
        told(s.does("back(0)", 1), STUCK, 3, 2, 0);
        told(s.does("fill(0, " + NONE + ")", 7).does("back(0)", 1), STUCK, 3, 1, 2);
        told(s.does("fill(2, " + NONE + ")", 7).does("back(0)", 1), HOME, 3, 0, NONE);
        return held(s.refused("back(0)", TURN), 4, 5, 6, NONE);
    }

    /** LOAN 0 is OUT with CASE 1 of CASE 0 in its VAN. */
    private static Story lentCase(String sentence) {
        Story s = fourCases(sentence).does("fill(0, 1)", NONE).does("loan()", 0).does("want(0, 0, 18)", 1);
        return s.does("leave(0)", 1);
    }

    static Story p23ACaseWithinTheThing() {
        Story s = lentCase("and is not WITHIN it (else it STAYS in the VAN)").does("fill(1, 0)", NONE).does("back(0)", 0);
        return held(van(told(s, STUCK, 1, 1, 0), 1), NONE, 0);
    }

    static Story p23ACaseDeepWithinTheThing() {
        Story s = lentCase("and is not WITHIN it (else it STAYS in the VAN)");
        s.does("fill(1, 2)", NONE).does("fill(2, 3)", NONE).does("fill(3, 0)", NONE).does("back(0)", 0);
        told(s, STUCK, 1, 1, 0);
        s.does("fill(2, " + NONE + ")", 3).does("back(0)", 1);
        return held(told(s, HOME, 1, 0, NONE), 1, 2, NONE, 0);
    }

    static Story p23ACaseWithinWhatIsBesideTheThing() {
        Story s = lentCase("and is not WITHIN it").does("fill(2, 0)", NONE).does("fill(1, 3)", NONE);
        return held(told(s.does("back(0)", 1), HOME, 1, 0, NONE), 1, 3, 0, NONE);
    }

    static Story p23FromTheLastToTheFirst() {
        Story s = fourCases("from the last THING in the VAN to the first").does("fill(0, 2)", NONE);
        s.does("fill(1, 3)", NONE).does("loan()", 0);
        wants(s, new int[] {0, 1}, new int[] {18, 18}).does("leave(0)", 1);
        // CASE 2 holds 1 and CASE 3 holds 0: whichever comes back first shuts the other out.
        s.does("fill(2, 1)", NONE).does("fill(3, 0)", NONE).does("back(0)", 1);
        return held(van(told(s, STUCK, 2, 1, 0), 2, NONE), NONE, 3, 1, 0);
    }

    static Story p23ACaseAndWhatWasInIt() {
        Story s = stocked("each comes to the CASE of its WANT").does("fill(3, 0)", NONE);
        wants(s, new int[] {3, 0}, new int[] {18, 0}).does("leave(0)", 1).does("back(0)", 2);
        return held(told(s, HOME, 2, 0, NONE), 4, 5, 6, 0);
    }

    static Story p23OneThingTwiceInTheVan() {
        Story s = stocked("how many THINGS did").does("fill(3, 4)", NONE);
        wants(s, new int[] {0, 3}, new int[] {0, 0}).does("leave(0)", 1).does("back(0)", 2);
        return held(told(s, HOME, 2, 0, NONE), 4, 5, 6, 4);
    }

    static Story p23TwoLoansOfOneCase() {
        Story s = stocked("if that holds NOTHING").does("loan()", 1).does("want(0, 0, 20)", 1).does("want(1, 0, 20)", 1);
        s.does("leave(0)", 1).does("fill(0, 7)", NONE).does("leave(1)", 1).does("back(1)", 1).does("back(0)", 0);
        return told(s, STUCK, 1, 1, 0).asked("held(0)", 7).asked("told(1, 0)", HOME).asked("van(0, 0)", 4);
    }

    static Story p24WhatTooSmall() {
        Story s = stuck("told: OUTSIDE").asked("told(0, 0)", STUCK).refused("told(0, -1)", OUTSIDE);
        return s.refused("told(0, " + MIN + ")", OUTSIDE).refused("told(0, " + NONE + ")", OUTSIDE);
    }

    static Story p24WhatTooLarge() {
        Story s = stuck("told: OUTSIDE").asked("told(0, 3)", 1).refused("told(0, 4)", OUTSIDE);
        return s.refused("told(0, 5)", OUTSIDE).refused("told(0, " + MAX + ")", OUTSIDE);
    }

    static Story p24Unknown() {
        Story s = stuck("told: UNKNOWN");
        for (int l : NO_LOANS) {
            s.refused("told(" + l + ", 0)", UNKNOWN).refused("told(" + l + ", 3)", UNKNOWN);
        }
        return s;
    }

    static Story p24UnknownAheadOfOutside() {
        Story s = stuck("UNKNOWN .., OUTSIDE ..: the first of these that fits");
        return s.refused("told(1, 4)", UNKNOWN).refused("told(-1, -1)", UNKNOWN);
    }

    static Story p24NotStuckWhenOpen() {
        return told(open("3 the WANT at which it is STUCK; NONE"), OPEN, 3, 0, NONE);
    }

    static Story p24NotStuckWhenOut() {
        return told(out("3 the WANT at which it is STUCK; NONE"), OUT, 3, 3, NONE);
    }

    static Story p24StuckAtTheFirstWant() {
        Story s = wants(stocked("3 the WANT at which it is STUCK; NONE"), new int[] {3}, new int[] {0});
        return told(s.does("leave(0)", NOTHING), STUCK, 1, 0, 0);
    }

    static Story p24StuckNoMoreWhenHome() {
        return told(stuck("3 the WANT at which it is STUCK; NONE").does("back(0)", 1), HOME, 3, 0, NONE);
    }

    static Story p25NoSuchWant() {
        Story s = out("has of WANT i; NONE");
        for (int i : new int[] {3, 7, 8, 9, -1, NONE, MIN, MAX}) {
            s.asked("van(0, " + i + ")", NONE);
        }
        return van(s, 4, 5, 6);
    }

    static Story p25FirstAndLastOfEight() {
        Story s = eightWants("has of WANT i; NONE").does("leave(0)", 1).asked("van(0, 0)", 1).asked("van(0, 7)", 15);
        return s.asked("van(0, -1)", NONE).asked("van(0, 8)", NONE);
    }

    static Story p25NothingInItWhenOpen() {
        return van(open("has of WANT i; NONE"), NONE, NONE, NONE);
    }

    static Story p25NothingOfTheWantAtWhichItIsStuckAndOfThoseBehind() {
        return van(stuck("has of WANT i; NONE"), 4, NONE, NONE);
    }

    static Story p25NothingOfAWantWhoseThingCameBack() {
        Story s = out("has of WANT i; NONE").does("fill(1, 7)", NONE).does("back(0)", 2);
        return van(s, NONE, 5, NONE);
    }

    static Story p25Unknown() {
        Story s = out("van: UNKNOWN");
        for (int l : NO_LOANS) {
            s.refused("van(" + l + ", 0)", UNKNOWN).refused("van(" + l + ", -1)", UNKNOWN);
        }
        return s;
    }
}
