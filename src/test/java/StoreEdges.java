/** Boundary cases of promises 26 and 27, and of the document's limit of calls. */
final class StoreEdges extends Edges {
    static Story p26WhatTooSmall() {
        Story s = fourCases("count: OUTSIDE").asked("count(0)", 8).refused("count(-1)", OUTSIDE);
        return s.refused("count(" + NONE + ")", OUTSIDE).refused("count(" + MIN + ")", OUTSIDE);
    }

    static Story p26WhatTooLarge() {
        Story s = fourCases("count: OUTSIDE").found("row(5, -1)", SIZE).asked("count(8)", 1);
        return s.refused("count(9)", OUTSIDE).refused("count(10)", OUTSIDE).refused("count(" + MAX + ")", OUTSIDE);
    }

    static Story p26FullStore() {
        Story s = full("0 THINGS, 1 CASES, 2 CASES that hold a THING").does("fill(108, 109)", NONE);
        return s.does("fill(0, 108)", NONE).asked("count(0)", 110).asked("count(1)", 37).asked("count(2)", 2);
    }

    static Story p26CasesThatHoldAThingNoMore() {
        Story s = fourCases("2 CASES that hold a THING").does("fill(0, 4)", NONE).does("fill(1, 0)", NONE);
        s.asked("count(2)", 2).does("fill(1, " + NONE + ")", 0).asked("count(2)", 1);
        s.does("loan()", 0).does("want(0, 0, 20)", 1).does("leave(0)", 1).asked("count(2)", 0);
        return s.does("back(0)", 1).asked("count(2)", 1).asked("count(1)", 4);
    }

    static Story p26LoansWhateverTheirState() {
        Story s = fourCases("3 LOANS").does("loan()", 0).does("loan()", 1).does("leave(0)", 1).asked("count(3)", 2);
        return s.does("back(0)", 0).asked("count(3)", 2);
    }

    static Story p26EachFindingByItself() {
        Story s = oneOfEach("4 .. 8 FINDINGS 1 .. 5 in all").found("date(0)", KIND);
        for (int n = 0; n < 2; n++) {
            s.found("inside(18)", NOTHING);
        }
        for (int n = 0; n < 3; n++) {
            s.found("write(5, 5, 3, 0)", PLACE);
        }
        for (int n = 0; n < 4; n++) {
            s.found("hang(12, 11, 0, 1)", STORE);
        }
        for (int n = 0; n < 5; n++) {
            s.found("row(5, -1)", SIZE);
        }
        for (int f = 1; f <= 5; f++) {
            s.asked("count(" + (f + 3) + ")", f);
        }
        return s;
    }

    static Story p26AllThatFindKind() {
        Story s = oneOfEach("4 .. 8 FINDINGS 1 .. 5 in all");
        s.found("worth(4, 0)", KIND).found("date(0)", KIND).found("size(0, 5)", KIND).found("write(0, 5, 0, 0)", KIND);
        s.found("hang(0, 10, 0, 0)", KIND).found("at(0, 10, 0)", KIND).found("deep(0, 9, 0, 0)", KIND);
        s.does("fill(18, 4)", NONE).found("inside(18)", KIND).asked("count(4)", 8);
        return s.does("loan()", 0).does("want(0, 18, 0)", 1).does("leave(0)", KIND).asked("count(4)", 9);
    }

    static Story p26AllThatFindNothing() {
        Story s = oneOfEach("4 .. 8 FINDINGS 1 .. 5 in all");
        s.found("deep(9, 9, 0, 0)", NOTHING).found("inside(18)", NOTHING).asked("count(5)", 2);
        return s.does("loan()", 0).does("want(0, 18, 0)", 1).does("leave(0)", NOTHING).asked("count(5)", 3);
    }

    static Story p26AllThatFindPlace() {
        Story s = oneOfEach("4 .. 8 FINDINGS 1 .. 5 in all").does("hang(9, 9, 0, 6)", 1);
        s.found("write(5, 5, 3, 0)", PLACE).found("hang(10, 10, 3, 0)", PLACE).found("at(10, 10, 3)", PLACE);
        return s.found("deep(9, 9, 3, 0)", PLACE).found("deep(9, 9, 0, 3)", PLACE).asked("count(6)", 5);
    }

    static Story p26ReadCountsNone() {
        Story s = oneOfEach("read() counts none").asked("read(0, 5, 0)", Check.CAST).asked("read(5, 5, 3)", Check.INDEX);
        for (int f = 1; f <= 5; f++) {
            s.asked("count(" + (f + 3) + ")", 0);
        }
        return s;
    }

    static Story p26RefusalsAreNoFindings() {
        Story s = oneOfEach("ahead of FINDINGS").refused("worth(19, 0)", UNKNOWN).refused("worth(0, 4)", OUTSIDE);
        s.refused("fill(18, 18)", TURN).refused("row(4, -1)", OUTSIDE).refused("deep(9, 10, 9, 9)", OUTSIDE);
        for (int f = 1; f <= 5; f++) {
            s.asked("count(" + (f + 3) + ")", 0);
        }
        return s;
    }

    static Story p27OfANewObject() {
        return new Story("how many THINGS there were").does("clear()", 0).does("clear()", 0).does("thing(0, 0)", 0);
    }

    static Story p27OfAFullStore() {
        Story s = full("how many THINGS there were").refused("thing(0, 0)", FULL).does("clear()", 110);
        s.refused("is(0, 20)", UNKNOWN).refused("is(109, 20)", UNKNOWN).does("clear()", 0);
        for (int n = 0; n < 110; n++) {
            s.does("thing(4, " + n + ")", n);
        }
        return s.refused("thing(0, 0)", FULL).asked("count(0)", 110).asked("count(1)", 0);
    }

    static Story p27CountsAreAsAtTheBeginning() {
        Story s = oneOfEach("All is as at the beginning");
        s.does("date(0)", KIND).does("inside(18)", NOTHING).does("at(9, 9, 3)", PLACE);
        s.does("hang(12, 11, 0, 1)", STORE).does("row(5, -1)", SIZE).does("fill(18, 0)", NONE).does("loan()", 0);
        s.does("clear()", 19);
        for (int what = 0; what <= 8; what++) {
            s.asked("count(" + what + ")", 0);
        }
        return s;
    }

    static Story p27RowsAreAsAtTheBeginning() {
        Story s = new Story("All is as at the beginning");
        for (int form = 5; form <= 8; form++) {
            s.does("row(" + form + ", 10)", form - 5).does("write(" + (form - 5) + ", " + form + ", 9, 1)", 1);
        }
        s.does("row(10, 10)", 4).does("thing(0, 0)", 5).does("hang(4, 10, 9, 5)", 1).does("clear()", 6);
        for (int form = 5; form <= 8; form++) {
            s.does("row(" + form + ", 10)", form - 5).asked("read(" + (form - 5) + ", " + form + ", 9)", 0);
        }
        return s.does("row(10, 10)", 4).asked("at(4, 10, 9)", NONE);
    }

    static Story p27RowsAndCasesInTheOthersPlaces() {
        Story s = new Story("All is as at the beginning").does("row(5, 10)", 0).does("makeCase()", 1);
        s.does("thing(0, 9)", 2).does("write(0, 5, 0, 7)", 1).does("fill(1, 2)", NONE).does("clear()", 3);
        s.does("makeCase()", 0).does("row(10, 1)", 1).does("row(6, 0)", 2).asked("held(0)", NONE);
        return s.asked("at(1, 10, 0)", NONE).asked("size(2, 6)", 0).refused("held(1)", UNKNOWN).asked("depth(0)", 1);
    }

    static Story p27CasesAreAsAtTheBeginning() {
        Story s = fourCases("All is as at the beginning").does("fill(0, 1)", NONE).does("fill(1, 4)", NONE);
        s.does("clear()", 8).refused("held(0)", UNKNOWN).does("makeCase()", 0).does("makeCase()", 1);
        return s.asked("held(0)", NONE).asked("held(1)", NONE).does("fill(1, 0)", NONE).asked("depth(1)", 2);
    }

    static Story p27LoansAreAsAtTheBeginning() {
        Story s = fourCases("All is as at the beginning").does("fill(0, 4)", NONE).does("loan()", 0);
        s.does("want(0, 0, 0)", 1).does("want(0, 1, 0)", 2).does("leave(0)", NOTHING).does("clear()", 8);
        s.refused("told(0, 0)", UNKNOWN).refused("van(0, 0)", UNKNOWN).refused("back(0)", UNKNOWN).does("loan()", 0);
        s.asked("told(0, 0)", OPEN).asked("told(0, 1)", 0).asked("told(0, 2)", 0).asked("told(0, 3)", NONE);
        return s.asked("van(0, 0)", NONE).does("leave(0)", 1).does("back(0)", 0);
    }

    static Story p27EightLoansAnew() {
        Story s = new Story("All is as at the beginning");
        for (int round = 0; round < 2; round++) {
            for (int n = 0; n < 8; n++) {
                s.does("loan()", n);
            }
            s.refused("loan()", FULL).does("clear()", 0);
        }
        return s.does("loan()", 0);
    }

    static Story p27NothingIsKnown() {
        Story s = oneOfEach("All is as at the beginning").does("loan()", 0).does("clear()", 19);
        for (int t = 0; t <= 18; t++) {
            s.refused("is(" + t + ", 20)", UNKNOWN).asked("read(" + t + ", 5, 0)", 0);
        }
        return s.refused("held(18)", UNKNOWN).refused("fill(18, " + NONE + ")", UNKNOWN).refused("want(0, 18, 0)", UNKNOWN);
    }

    static Story termsTheLastCallsOfALongRun() {
        Story s = new Story("An object is used for at most 512 calls");
        s.does("thing(0, 0)", 0).does("makeCase()", 1).does("fill(1, 0)", NONE);
        for (int n = 0; n < 460; n++) {
            s.found("date(0)", KIND);
        }
        return s.asked("count(4)", 460).asked("inside(1)", 1);
    }
}
