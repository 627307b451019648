/** Boundary cases of promises 1, 2 and 5 to 8: THINGS, their KINDS, WORTH and DATE. */
final class ThingEdges extends Edges {
    static Story p01NothingIsThereToCount() {
        Story s = new Story("Nothing is there.");
        for (int what = 0; what <= 8; what++) {
            s.asked("count(" + what + ")", 0);
        }
        return s;
    }

    static Story p01NoThingIsThere() {
        Story s = new Story("Nothing is there.");
        s.refused("is(0, 20)", UNKNOWN).refused("kinds(0)", UNKNOWN).refused("worth(0, 0)", UNKNOWN);
        s.refused("date(0)", UNKNOWN).refused("size(0, 5)", UNKNOWN).refused("write(0, 5, 0, 1)", UNKNOWN);
        s.asked("read(0, 5, 0)", 0).refused("hang(0, 10, 0, " + NONE + ")", UNKNOWN);
        return s.refused("at(0, 10, 0)", UNKNOWN).refused("deep(0, 9, 0, 0)", UNKNOWN);
    }

    static Story p01NoCaseIsThere() {
        Story s = new Story("Nothing is there.").refused("fill(0, " + NONE + ")", UNKNOWN).refused("held(0)", UNKNOWN);
        return s.refused("innermost(0, 20)", UNKNOWN).refused("depth(0)", UNKNOWN).refused("inside(0)", UNKNOWN);
    }

    static Story p01NoLoanIsThere() {
        Story s = new Story("Nothing is there.").refused("want(0, 0, 0)", UNKNOWN).refused("leave(0)", UNKNOWN);
        return s.refused("back(0)", UNKNOWN).refused("told(0, 0)", UNKNOWN).refused("van(0, 0)", UNKNOWN);
    }

    static Story termsThingsAreNumberedFrom0OnWhateverTheyAre() {
        Story s = new Story("THINGS, numbered from 0 on as they are made");
        return s.does("thing(3, 9)", 0).does("row(15, 2)", 1).does("makeCase()", 2).does("thing(0, 0)", 3)
            .asked("count(0)", 4);
    }

    static Story termsWhatIsRefusedTakesNoNumber() {
        Story s = new Story("THINGS, numbered from 0 on as they are made").does("thing(0, 0)", 0);
        s.refused("thing(5, 0)", OUTSIDE).refused("row(5, 11)", OUTSIDE).found("row(5, -1)", SIZE);
        return s.does("thing(1, 0)", 1).does("makeCase()", 2).does("row(5, 0)", 3);
    }

    static Story terms110ThingsAtMost() {
        Story s = full("110 at most").asked("count(0)", 110).asked("is(109, 0)", 1);
        return s.refused("makeCase()", FULL).refused("thing(0, 0)", FULL).refused("row(5, 0)", FULL);
    }

    static Story p02FormTooSmall() {
        Story s = new Story("A THING of FORM 0 to 4");
        s.refused("thing(-1, 0)", OUTSIDE).refused("thing(" + MIN + ", 0)", OUTSIDE);
        return s.does("thing(0, 7)", 0).asked("is(0, 0)", 1).refused("thing(-1, 7)", OUTSIDE);
    }

    static Story p02FormTooLarge() {
        Story s = new Story("A THING of FORM 0 to 4");
        s.refused("thing(5, 0)", OUTSIDE).refused("thing(18, 0)", OUTSIDE).refused("thing(19, 0)", OUTSIDE);
        s.refused("thing(20, 0)", OUTSIDE).refused("thing(" + MAX + ", 0)", OUTSIDE);
        return s.does("thing(4, 7)", 0).asked("is(0, 4)", 1).refused("thing(5, 7)", OUTSIDE);
    }

    static Story p02YearTooSmall() {
        Story s = new Story("with a YEAR (0 .. 3000)");
        for (int form = 0; form <= 4; form++) {
            s.refused("thing(" + form + ", -1)", OUTSIDE).refused("thing(" + form + ", " + MIN + ")", OUTSIDE);
            s.does("thing(" + form + ", 0)", form);
        }
        return s;
    }

    static Story p02YearTooLarge() {
        Story s = new Story("with a YEAR (0 .. 3000)");
        for (int form = 0; form <= 4; form++) {
            s.refused("thing(" + form + ", 3001)", OUTSIDE).refused("thing(" + form + ", " + MAX + ")", OUTSIDE);
            s.does("thing(" + form + ", 3000)", form);
        }
        return s;
    }

    static Story p02Full() {
        Story s = new Story("thing: FULL");
        for (int n = 0; n < 110; n++) {
            s.does("thing(" + n % 5 + ", " + n + ")", n);
        }
        for (int form = 0; form <= 4; form++) {
            s.refused("thing(" + form + ", 0)", FULL).refused("thing(" + form + ", 3000)", FULL);
        }
        return s.asked("count(0)", 110);
    }

    static Story p02OutsideAheadOfFull() {
        Story s = full("OUTSIDE .., FULL: the first of these that fits");
        s.refused("thing(-1, 0)", OUTSIDE).refused("thing(5, 0)", OUTSIDE);
        return s.refused("thing(0, -1)", OUTSIDE).refused("thing(0, 3001)", OUTSIDE).refused("thing(0, 0)", FULL);
    }

    static Story termsWhatEachFormIs() {
        Story s = oneOfEach("KINDS that a THING IS .. All else IS its FORM alone");
        for (int form = 0; form <= 18; form++) {
            for (int kind = 0; kind <= 20; kind++) {
                s.asked("is(" + form + ", " + kind + ")", isOf(form, kind) ? 1 : 0);
            }
        }
        return s;
    }

    static Story termsAWallIsNoHall() {
        Story s = oneOfEach("a WALL no HALL").asked("is(15, 15)", 1).asked("is(15, 16)", 0).asked("is(16, 15)", 0);
        return s.found("size(15, 16)", KIND).found("size(16, 15)", KIND).found("deep(15, 16, 0, 0)", KIND);
    }

    static Story termsAnEmptyRowIsOfItsKindsToo() {
        Story s = new Story("A row of ICONS is one of PICTURES, of WORKS, of what is DATED");
        s.does("row(12, 0)", 0).does("row(11, 0)", 1);
        for (int kind = 0; kind <= 20; kind++) {
            s.asked("is(0, " + kind + ")", isOf(12, kind) ? 1 : 0).asked("is(1, " + kind + ")", isOf(11, kind) ? 1 : 0);
        }
        return s;
    }

    static Story p05KindTooSmall() {
        Story s = oneOfEach("of a KIND (0 .. 20)");
        for (int t = 0; t <= 18; t++) {
            s.refused("is(" + t + ", -1)", OUTSIDE).refused("is(" + t + ", " + MIN + ")", OUTSIDE);
        }
        return s.asked("is(0, 0)", 1).asked("is(18, 0)", 0);
    }

    static Story p05KindTooLarge() {
        Story s = oneOfEach("of a KIND (0 .. 20)");
        for (int t = 0; t <= 18; t++) {
            s.refused("is(" + t + ", 21)", OUTSIDE).refused("is(" + t + ", " + MAX + ")", OUTSIDE);
            s.asked("is(" + t + ", 20)", 1);
        }
        return s;
    }

    static Story p05Unknown() {
        Story s = oneOfEach("is: UNKNOWN");
        for (int t : noThings(19)) {
            s.refused("is(" + t + ", 0)", UNKNOWN).refused("is(" + t + ", 20)", UNKNOWN);
        }
        return s;
    }

    static Story p05UnknownAheadOfOutside() {
        Story s = oneOfEach("UNKNOWN .., OUTSIDE ..: the first of these that fits");
        return s.refused("is(19, 21)", UNKNOWN).refused("is(-1, -1)", UNKNOWN).refused("is(18, 21)", OUTSIDE);
    }

    static Story p06Kind19IsCounted() {
        return oneOfEach("How many KINDS 0 to 19 a THING IS").asked("kinds(2)", 4).asked("kinds(4)", 2);
    }

    static Story p06Kind20IsNotCounted() {
        Story s = oneOfEach("How many KINDS 0 to 19 a THING IS");
        for (int form = 0; form <= 18; form++) {
            s.asked("kinds(" + form + ")", KINDS_OF[form].length);
        }
        return s;
    }

    static Story p06Unknown() {
        Story s = oneOfEach("kinds: UNKNOWN");
        for (int t : noThings(19)) {
            s.refused("kinds(" + t + ")", UNKNOWN);
        }
        return s;
    }

    static Story p07KindTooSmall() {
        Story s = oneOfEach("taken for a KIND (0 to 3)").asked("worth(0, 0)", 6);
        for (int t = 0; t <= 18; t++) {
            s.refused("worth(" + t + ", -1)", OUTSIDE).refused("worth(" + t + ", " + MIN + ")", OUTSIDE);
        }
        return s;
    }

    static Story p07KindTooLarge() {
        Story s = oneOfEach("taken for a KIND (0 to 3)").asked("worth(3, 3)", 306);
        for (int t = 0; t <= 18; t++) {
            s.refused("worth(" + t + ", 4)", OUTSIDE).refused("worth(" + t + ", 20)", OUTSIDE);
        }
        return s.refused("worth(2, 19)", OUTSIDE).refused("worth(0, " + MAX + ")", OUTSIDE);
    }

    static Story p07OfAnotherKind() {
        Story s = oneOfEach("worth: KIND");
        int[] worth = {6, 212, 512, 306};
        int findings = 0;
        for (int t = 0; t <= 18; t++) {
            for (int kind = 0; kind <= 3; kind++) {
                String call = "worth(" + t + ", " + kind + ")";
                if (isOf(t, kind)) {
                    s.asked(call, worth[t]);
                } else {
                    s.found(call, KIND);
                    findings++;
                }
            }
        }
        return s.asked("count(4)", findings);
    }

    static Story p07OfTheFirstYear() {
        Story s = new Story("of a WORK YEAR and 1; .. times 2; .. and 100; of a FIGURE that of a WORK");
        s.does("thing(0, 0)", 0).does("thing(1, 0)", 1).does("thing(2, 0)", 2).does("thing(3, 0)", 3);
        return s.asked("worth(0, 0)", 1).asked("worth(1, 1)", 2).asked("worth(2, 2)", 102).asked("worth(3, 3)", 1);
    }

    static Story p07OfTheLastYear() {
        Story s = new Story("of a WORK YEAR and 1; .. times 2; .. and 100; of a FIGURE that of a WORK");
        s.does("thing(0, 3000)", 0).does("thing(1, 3000)", 1).does("thing(2, 3000)", 2).does("thing(3, 3000)", 3);
        s.asked("worth(0, 0)", 3001).asked("worth(1, 0)", 6002).asked("worth(2, 0)", 6102);
        return s.asked("worth(2, 1)", 6102).asked("worth(3, 0)", 3001);
    }

    static Story p07Unknown() {
        Story s = oneOfEach("worth: UNKNOWN");
        for (int t : noThings(19)) {
            s.refused("worth(" + t + ", 0)", UNKNOWN).refused("worth(" + t + ", 3)", UNKNOWN);
        }
        return s;
    }

    static Story p07UnknownThenOutsideThenKind() {
        Story s = oneOfEach("the first of these that fits, ahead of FINDINGS");
        s.refused("worth(19, 4)", UNKNOWN).refused("worth(-1, -1)", UNKNOWN);
        return s.refused("worth(4, 4)", OUTSIDE).refused("worth(18, -1)", OUTSIDE).found("worth(4, 3)", KIND);
    }

    static Story p08OfTheFirstYear() {
        Story s = new Story("of an ICON YEAR and 1, of a COIN YEAR less 1").does("thing(2, 0)", 0).does("thing(4, 0)", 1);
        return s.asked("date(0)", 1).asked("date(1)", -1);
    }

    static Story p08OfTheLastYear() {
        Story s = new Story("of an ICON YEAR and 1, of a COIN YEAR less 1");
        s.does("thing(2, 3000)", 0).does("thing(4, 3000)", 1);
        return s.asked("date(0)", 3001).asked("date(1)", 2999);
    }

    static Story p08OfAnotherKind() {
        Story s = oneOfEach("date: KIND");
        for (int t = 0; t <= 18; t++) {
            if (t == 2 || t == 4) {
                s.asked("date(" + t + ")", t == 2 ? 206 : 404);
            } else {
                s.found("date(" + t + ")", KIND);
            }
        }
        return s.asked("count(4)", 17);
    }

    static Story p08Unknown() {
        Story s = oneOfEach("date: UNKNOWN");
        for (int t : noThings(19)) {
            s.refused("date(" + t + ")", UNKNOWN);
        }
        return s;
    }
}
