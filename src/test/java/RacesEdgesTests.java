/** The boundaries that the document names for races and in the promises 8 to 14, sentence by sentence. */
final class RacesEdgesTests {
    private RacesEdgesTests() { }

    static void run() {
        terms();
        promises();
    }

    private static void terms() {
        Check.sentence("if it is not the lowest division, the crew that has the first place of the division with the "
            + "next greater number", RacesEdgesTests::sandwichCrew);
        Check.sentence("(the sandwich crew, which has raced already)", RacesEdgesTests::sandwichCrewHasRaced);
        Check.sentence("they start in the order of their places", RacesEdgesTests::orderOfPlaces);
        Check.sentence("if both are starters", RacesEdgesTests::bothStarters);
        Check.sentence("that are not out", RacesEdgesTests::bothNotOut);
        Check.sentence("a starts behind b", RacesEdgesTests::startsBehind);
        Check.sentence("and all crews that start between them are out", RacesEdgesTests::allBetweenOut);
        Check.sentence("Then both are out", RacesEdgesTests::bothAreOut);
        Check.sentence("The bumps of a race are numbered from 0 in the order in which they were made",
            RacesEdgesTests::numbersOfBumps);
        Check.sentence("A bump needs an earlier one if crews of that one start between its own two crews",
            RacesEdgesTests::needs);
        Check.sentence("takes all bumps back that need it, too, those that need these, and so on",
            RacesEdgesTests::andSoOn);
        Check.sentence("their crews are not out any more", RacesEdgesTests::notOutAnyMore);
        Check.sentence("those that are left are numbered from 0 anew, in their order", RacesEdgesTests::numberedAnew);
        Check.sentence("the two crews of each of its bumps exchange their places", RacesEdgesTests::exchange);
    }

    private static void promises() {
        Check.sentence("8: index: 0 for the first one, and so on", RacesEdgesTests::starterIndex);
        Check.sentence("8: INVALID_ARGUMENT if index is negative", RacesEdgesTests::starterNegative);
        Check.sentence("8: NOT_FOUND if there are not so many, or there is no present race",
            RacesEdgesTests::starterNotFound);
        Check.sentence("9: a: number of the crew that bumps", () ->
            Check.range("a", 0, 8, a -> Charts.race(9).bump(a, 0)));
        Check.sentence("9: b: number of the crew that is bumped", () ->
            Check.range("b", 0, 8, b -> Charts.race(9).bump(8, b)));
        Check.sentence("9: Returns the number of the bump", RacesEdgesTests::numberAfterRerow);
        Check.sentence("9: NOT_POSSIBLE if there is no present race, or a can not bump b",
            RacesEdgesTests::bumpNotPossible);
        Check.sentence("10: a: number of a crew", () -> Check.range("a", 0, 8, a -> Charts.race(9).why(a, 0)));
        Check.sentence("10: b: number of a crew", () -> Check.range("b", 0, 8, b -> Charts.race(9).why(8, b)));
        Check.sentence("10: as the reasons 2 to 5 of texts", RacesEdgesTests::firstReason);
        Check.sentence("10: Returns the reason, 0 if it can", RacesEdgesTests::reasonZero);
        Check.sentence("11: bump: number of the bump", RacesEdgesTests::bumpedNumber);
        Check.sentence("11: what: 0 to 2", () -> Check.range("what", 0, 2, what -> fourDeep().bumped(3, what)));
        Check.sentence("11: how many places lie between their places (0: they are next to each other)",
            RacesEdgesTests::placesBetween);
        Check.sentence("11: INVALID_ARGUMENT (also if there is no present race)", RacesEdgesTests::bumpedWithoutRace);
        Check.sentence("12: INVALID_ARGUMENT if there is no such bump", RacesEdgesTests::rerowNoSuchBump);
        Check.sentence("12: Returns how many bumps are taken back", RacesEdgesTests::rerowCounts);
        Check.sentence("13: Returns how many bumps it had", RacesEdgesTests::finishCounts);
        Check.sentence("13: NOT_POSSIBLE if there is no present race", RacesEdgesTests::finishWithoutRace);
        Check.sentence("14: Returns the number of states that are left in the history", RacesEdgesTests::undoCounts);
        Check.sentence("14: NOT_POSSIBLE if it is empty", RacesEdgesTests::undoOfNothing);
        Check.sentence("14: Restores the latest state: the last race of all days", RacesEdgesTests::undoOfTheLastRace);
    }

    /** The crews 0 to 8 race; each bump needs all those before it: 5-4, 6-3, 7-2, 8-1. */
    private static BumpsChart fourDeep() {
        BumpsChart x = Charts.race(9);
        for (int k = 0; k < 4; k++) {
            x.bump(5 + k, 4 - k);
        }
        return x;
    }

    /** The crews 0 to 8 race; no bump needs another: 1-0, 3-2, 5-4, 7-6. */
    private static BumpsChart fourApart() {
        BumpsChart x = Charts.race(9);
        for (int a = 1; a < 8; a += 2) {
            x.bump(a, a - 1);
        }
        return x;
    }

    private static void sandwichCrew() {
        for (int size = 3; size <= 8; size++) {
            BumpsChart x = Charts.begun(2 * size + 1, size, 1);
            Check.starters("the lowest has none", x, 2 * size);
            x.finish();
            Check.due("its only crew", x.starter(size), 2 * size);
            Check.due("and no more", x.starter(size + 1), Check.NONE);
            Check.due("it is the last one", x.crew(2 * size, 3), size);
            x.finish();
            Check.due("the head of the middle one", x.starter(size), size);
            Check.due("and no more", x.starter(size + 1), Check.NONE);
            Check.due("the next one is none", x.crew(size + 1, 3), Check.NONE);
        }
        BumpsChart full = Charts.begun(8, 4, 1);
        Check.starters("a full lowest one has none", full, 4, 5, 6, 7);
        BumpsChart single = Charts.begun(2, 8, 1);
        Check.starters("a single one has none", single, 0, 1);
    }

    private static void sandwichCrewHasRaced() {
        BumpsChart x = Charts.begun(6, 3, 2);
        Charts.raceWith(x, 4, 3);
        Check.starters("the new head", x, 0, 1, 2, 4);
        Check.due("it is not out any more", x.crew(4, 4), 0);
        Charts.raceWith(x, 4, 2);
        Check.crews("the other one is below", x, 0, 1, 4, 2, 3, 5);
        Check.starters("it races in the lowest one next", x, 2, 3, 5);
    }

    private static void orderOfPlaces() {
        BumpsChart x = fourDeep();
        x.finish();
        x.finish();
        Check.starters("of places, not of numbers", x, 0, 8, 7, 6, 5, 4, 3, 2, 1);
        Check.due("the last one's number", x.crew(1, 3), 8);
        Check.due("behind is as they start", x.why(1, 2), 0);
        Check.due("ahead is as they start", x.why(2, 1), 4);
    }

    private static void bothStarters() {
        BumpsChart x = new BumpsChart();
        x.finish();
        Check.due("the last place ahead", x.bump(4, 3), Check.IMPOSSIBLE);
        Check.due("the first place behind", x.bump(9, 8), Check.IMPOSSIBLE);
        Check.due("neither", x.bump(11, 0), Check.IMPOSSIBLE);
        Check.due("the sandwich crew is one", x.bump(8, 7), 0);
    }

    private static void bothNotOut() {
        BumpsChart x = Charts.race(4);
        x.bump(2, 1);
        Check.due("a has bumped", x.bump(2, 0), Check.IMPOSSIBLE);
        Check.due("a was bumped", x.bump(1, 0), Check.IMPOSSIBLE);
        Check.due("b has bumped", x.bump(3, 2), Check.IMPOSSIBLE);
        Check.due("b was bumped", x.bump(3, 1), Check.IMPOSSIBLE);
        Check.due("both are out", x.bump(2, 1), Check.IMPOSSIBLE);
        Check.due("neither is out", x.bump(3, 0), 1);
    }

    private static void startsBehind() {
        BumpsChart x = Charts.race(2);
        Check.due("itself", x.bump(1, 1), Check.IMPOSSIBLE);
        Check.due("itself", x.bump(0, 0), Check.IMPOSSIBLE);
        Check.due("ahead", x.bump(0, 1), Check.IMPOSSIBLE);
        Check.due("behind", x.bump(1, 0), 0);
    }

    private static void allBetweenOut() {
        BumpsChart x = Charts.race(5);
        Check.due("one between", x.bump(2, 0), Check.IMPOSSIBLE);
        Check.due("three between", x.bump(4, 0), Check.IMPOSSIBLE);
        x.bump(2, 1);
        Check.due("the one nearest to a is not out", x.bump(4, 0), Check.IMPOSSIBLE);
        x.rerow(0);
        x.bump(3, 2);
        Check.due("the one nearest to b is not out", x.bump(4, 0), Check.IMPOSSIBLE);
        Check.due("both between are out", x.bump(4, 1), 1);
        Check.due("none between", Charts.race(9).bump(8, 7), 0);
        BumpsChart deep = Charts.race(8);
        deep.bump(4, 3);
        deep.bump(5, 2);
        Check.due("not all six between", deep.bump(7, 0), Check.IMPOSSIBLE);
        deep.bump(6, 1);
        Check.due("all six between", deep.bump(7, 0), 3);
    }

    private static void bothAreOut() {
        BumpsChart x = Charts.race(9);
        x.bump(8, 7);
        Check.due("a", x.crew(8, 4), 1);
        Check.due("b", x.crew(7, 4), 1);
        Check.due("the next one", x.crew(6, 4), 0);
        x.bump(1, 0);
        Check.due("the first one", x.crew(0, 4), 1);
        Check.due("the one behind", x.crew(2, 4), 0);
        x.finish();
        Check.due("in the next race not", x.crew(7, 4), 0);
    }

    private static void numbersOfBumps() {
        BumpsChart x = Charts.race(9);
        Check.due("first", x.bump(8, 7), 0);
        Check.due("second", x.bump(2, 1), 1);
        Check.due("third", x.bump(6, 5), 2);
        Check.due("fourth", x.bump(4, 3), 3);
        Check.due("the first is as it was", x.bumped(0, 0), 8);
        Check.due("the last", x.bumped(3, 1), 3);
        x.finish();
        Check.due("none in the next race", x.count(6), 0);
        x.finish();
        Check.due("from 0 in the next race", x.bump(x.starter(1), x.starter(0)), 0);
    }

    private static void needs() {
        for (int bump = 0; bump < 4; bump++) {
            BumpsChart apart = fourApart();
            Check.due("next to it is not between, " + bump, apart.rerow(bump), 1);
            Check.due("the others are left", apart.count(6), 3);
            BumpsChart deep = fourDeep();
            Check.due("those around it, " + bump, deep.rerow(bump), 4 - bump);
            Check.due("those within it are left", deep.count(6), bump);
        }
        BumpsChart x = Charts.race(4);
        x.bump(2, 1);
        x.bump(3, 0);
        Check.due("an earlier one does not need it", x.rerow(1), 1);
        Check.due("it is left", x.bumped(0, 0), 2);
    }

    private static void andSoOn() {
        BumpsChart x = Charts.race(9);
        x.bump(2, 1);
        x.bump(6, 5);
        x.bump(7, 4);
        x.bump(3, 0);
        Check.due("only those that need it", x.rerow(0), 2);
        Check.due("left", x.bumped(0, 0), 6);
        Check.due("left", x.bumped(1, 0), 7);
        BumpsChart y = Charts.race(8);
        y.bump(2, 1);
        y.bump(4, 3);
        y.bump(6, 5);
        y.bump(7, 0);
        Check.due("one that needs three", y.rerow(1), 2);
        Check.due("the other two are left", y.count(6), 2);
        Check.due("left", y.bumped(1, 0), 6);
        Check.due("all of a chain", fourDeep().rerow(0), 4);
    }

    private static void notOutAnyMore() {
        BumpsChart x = fourDeep();
        x.rerow(2);
        int[] due = {0, 0, 0, 1, 1, 1, 1, 0, 0};
        for (int crew = 0; crew < due.length; crew++) {
            Check.due("crew " + crew, x.crew(crew, 4), due[crew]);
        }
        Check.due("again possible", x.bump(7, 2), 2);
        Check.due("again possible", x.bump(8, 1), 3);
    }

    private static void numberedAnew() {
        int[][] due = {{3, 5, 7}, {1, 5, 7}, {1, 3, 7}, {1, 3, 5}};
        for (int bump = 0; bump < 4; bump++) {
            BumpsChart x = fourApart();
            x.rerow(bump);
            for (int left = 0; left < 3; left++) {
                Check.due("without " + bump + ", a of " + left, x.bumped(left, 0), due[bump][left]);
                Check.due("without " + bump + ", b of " + left, x.bumped(left, 1), due[bump][left] - 1);
            }
            Check.due("no fourth", x.bumped(3, 0), Check.INVALID);
        }
    }

    private static void exchange() {
        BumpsChart x = fourDeep();
        x.finish();
        Check.crews("over all places", x, 0, 8, 7, 6, 5, 4, 3, 2, 1);
        x = fourApart();
        x.finish();
        Check.crews("next to each other", x, 1, 0, 3, 2, 5, 4, 7, 6, 8);
        x = Charts.begun(24, 8, 1);
        Charts.raceWith(x, 23, 22);
        Check.due("the last place", x.at(23), 22);
        x = Charts.begun(8, 3, 1);
        Charts.finish(x, 1);
        x.bump(5, 4);
        x.bump(6, 3);
        x.finish();
        Check.crews("foot and head of a division", x, 0, 1, 2, 6, 5, 4, 3, 7);
    }

    private static void starterIndex() {
        for (int starters = 2; starters <= 9; starters++) {
            BumpsChart x = Charts.race(starters);
            Check.due("the first", x.starter(0), 0);
            Check.due("the last", x.starter(starters - 1), starters - 1);
            Check.due("one too far", x.starter(starters), Check.NONE);
        }
    }

    private static void starterNegative() {
        BumpsChart x = new BumpsChart();
        Check.due("-1", x.starter(-1), Check.INVALID);
        Check.due("the least", x.starter(Integer.MIN_VALUE), Check.INVALID);
        Check.due("without a race too", Charts.over().starter(-1), Check.INVALID);
    }

    private static void starterNotFound() {
        BumpsChart x = Charts.begun(4, 3, 1);
        Check.due("the only one", x.starter(0), 3);
        Check.due("not two", x.starter(1), Check.NONE);
        Check.due("the greatest", x.starter(Integer.MAX_VALUE), Check.NONE);
        BumpsChart y = new BumpsChart();
        Check.due("no crew behind those of the lowest", y.starter(4), Check.NONE);
        y.finish();
        y.finish();
        Check.due("a crew that has a place, but is no starter", y.starter(5), Check.NONE);
        Check.due("no race", Charts.over().starter(0), Check.NONE);
        Check.due("no race", Charts.over().starter(Integer.MAX_VALUE), Check.NONE);
    }

    private static void numberAfterRerow() {
        BumpsChart x = fourApart();
        x.rerow(0);
        Check.due("the first one left free", x.bump(1, 0), 3);
        x.rerow(3);
        x.rerow(0);
        Check.due("two are left", x.bump(1, 0), 2);
        Check.due("it stands behind them", x.bumped(2, 0), 1);
    }

    private static void bumpNotPossible() {
        BumpsChart x = Charts.race(3);
        int[][] wrong = {{2, 0}, {0, 2}, {1, 1}};
        for (int[] w : wrong) {
            Check.due("can not", x.bump(w[0], w[1]), Check.IMPOSSIBLE);
            Check.due("no bump is made", x.count(6), 0);
        }
        BumpsChart over = Charts.over();
        Check.due("no race", over.bump(1, 0), Check.IMPOSSIBLE);
        Check.due("no race, but a is no crew", over.bump(3, 0), Check.INVALID);
        Check.due("no race, but b is no crew", over.bump(0, -1), Check.INVALID);
        Check.due("can not, and is no crew", x.bump(2, 3), Check.INVALID);
    }

    private static void firstReason() {
        BumpsChart x = new BumpsChart();
        x.finish();
        x.bump(6, 5);
        Check.due("2 rather than 3: b is out", x.why(9, 5), 2);
        Check.due("2 rather than 3: a is out", x.why(5, 9), 2);
        Check.due("2 rather than 4: ahead", x.why(3, 8), 2);
        Check.due("2 rather than 4: itself", x.why(9, 9), 2);
        Check.due("2 rather than 5", x.why(9, 7), 2);
        Check.due("3 rather than 4: ahead", x.why(4, 6), 3);
        Check.due("3 rather than 4: itself", x.why(6, 6), 3);
        Check.due("3 rather than 5", x.why(8, 6), 3);
        Check.due("4 rather than 5", x.why(4, 8), 4);
        Check.due("4: itself", x.why(7, 7), 4);
        Check.due("5", x.why(8, 4), 5);
        Check.due("0 over those that are out", x.why(7, 4), 0);
        Check.due("0 for neighbours", x.why(8, 7), 0);
    }

    private static void reasonZero() {
        for (int a = 0; a < 9; a++) {
            for (int b = 0; b < 9; b++) {
                BumpsChart x = Charts.race(9);
                int reason = x.why(a, b);
                Check.due(a + " and " + b, reason, a <= b ? 4 : a == b + 1 ? 0 : 5);
                Check.due(a + " bumps " + b, x.bump(a, b), reason == 0 ? 0 : Check.IMPOSSIBLE);
            }
        }
        Check.due("no race", Charts.over().why(1, 0), 2);
        Check.due("no race, no crew", Charts.over().why(1, 3), Check.INVALID);
    }

    private static void bumpedNumber() {
        Check.range("of four", 0, 3, bump -> fourDeep().bumped(bump, 0));
        Check.due("of none", Charts.race(9).bumped(0, 0), Check.INVALID);
        Check.due("of none, -1", Charts.race(9).bumped(-1, 0), Check.INVALID);
        BumpsChart x = fourDeep();
        x.rerow(3);
        Check.due("of three", x.bumped(2, 0), 7);
        Check.due("the one taken back", x.bumped(3, 0), Check.INVALID);
    }

    private static void placesBetween() {
        BumpsChart x = fourDeep();
        for (int bump = 0; bump < 4; bump++) {
            Check.due("bump " + bump, x.bumped(bump, 2), 2 * bump);
        }
        BumpsChart apart = fourApart();
        for (int bump = 0; bump < 4; bump++) {
            Check.due("next to each other " + bump, apart.bumped(bump, 2), 0);
        }
    }

    private static void bumpedWithoutRace() {
        for (int what = -1; what <= 3; what++) {
            Check.due("what " + what, Charts.over().bumped(0, what), Check.INVALID);
        }
        BumpsChart x = Charts.race(2);
        x.finish();
        Charts.raceWith(x, 1, 0);
        Check.due("the bump of the last race", x.bumped(0, 0), Check.INVALID);
        x.undo();
        Check.due("the bump is there again", x.bumped(0, 0), 1);
    }

    private static void rerowNoSuchBump() {
        Check.range("of four", 0, 3, bump -> fourApart().rerow(bump));
        BumpsChart x = Charts.race(9);
        Check.due("of none", x.rerow(0), Check.INVALID);
        Check.due("no state is recorded", x.count(10), 2);
        Check.due("no race", Charts.over().rerow(0), Check.INVALID);
        BumpsChart y = Charts.race(2);
        Charts.raceWith(y, 1, 0);
        Check.due("of the race before", y.rerow(0), Check.INVALID);
    }

    private static void rerowCounts() {
        BumpsChart x = fourDeep();
        Check.due("the last", x.rerow(3), 1);
        Check.due("the one within", x.rerow(1), 2);
        Check.due("the only one", x.rerow(0), 1);
        Check.due("none is left", x.count(6), 0);
        Check.due("one for all three", x.undo(), 3);
        Check.due("the bump is there again", x.count(6), 1);
        Check.due("the three are there again", x.undo(), 2);
        Check.due("the three are there again", x.count(6), 3);
    }

    private static void finishCounts() {
        Check.due("none", Charts.race(9).finish(), 0);
        Check.due("four", fourDeep().finish(), 4);
        BumpsChart x = fourDeep();
        x.rerow(1);
        Check.due("those that are left", x.finish(), 1);
        BumpsChart alone = Charts.begun(4, 3, 1);
        Check.due("a crew alone", alone.finish(), 0);
    }

    private static void finishWithoutRace() {
        BumpsChart x = Charts.over();
        int states = x.count(10);
        Check.due("no race", x.finish(), Check.IMPOSSIBLE);
        Check.due("no state is recorded", x.count(10), states);
        x.undo();
        Check.due("the race is there again", x.finish(), 0);
        Check.due("the first race of all", new BumpsChart().finish(), 0);
    }

    private static void undoCounts() {
        BumpsChart x = new BumpsChart();
        for (int changes = 1; changes <= 6; changes++) {
            x.finish();
            Check.due("states", x.count(10), Math.min(changes, 4));
        }
        for (int left = 3; left >= 0; left--) {
            Check.due("left", x.undo(), left);
            Check.due("told too", x.count(10), left);
        }
        Check.due("the two first are for ever", x.count(5), 0);
        Check.due("no more", x.undo(), Check.IMPOSSIBLE);
    }

    private static void undoOfNothing() {
        BumpsChart x = new BumpsChart();
        Check.due("at first", x.undo(), Check.IMPOSSIBLE);
        x.type('a');
        x.clearText();
        Check.due("texts are no changes", x.undo(), Check.IMPOSSIBLE);
        x.bump(8, 9);
        x.set(0, 99);
        x.setSpeed(0, 0);
        x.begin(0, 0, 0);
        x.rerow(0);
        Check.due("nor are refused calls", x.undo(), Check.IMPOSSIBLE);
        x.finish();
        Check.due("the only one", x.undo(), 0);
        Check.due("undo is no change", x.undo(), Check.IMPOSSIBLE);
    }

    private static void undoOfTheLastRace() {
        BumpsChart x = Charts.begun(4, 3, 1);
        x.finish();
        x.bump(3, 2);
        x.finish();
        Check.due("no race", x.count(5), Check.NONE);
        x.undo();
        Check.due("the division 0 again", x.count(5), 0);
        Check.due("no day is over", x.count(4), 0);
        Check.due("the bump", x.bumped(0, 0), 3);
        Check.due("the sandwich crew is out", x.crew(3, 4), 1);
        Check.due("no bump is counted", x.crew(3, 8), 0);
        Check.due("no rise", x.crew(3, 5), 0);
        Check.due("no day 1", x.place(3, 1), Check.INVALID);
        Check.due("finished once more", x.finish(), 1);
        Check.due("counted once", x.crew(3, 8), 1);
        Check.due("the place", x.again(3, 1), 2);
    }
}
