/** The boundaries that the document names for the chart and in the promises 19 to 21, sentence by sentence. */
final class ChartEdgesTests {
    private ChartEdgesTests() { }

    static void run() {
        terms();
        promises();
    }

    private static void terms() {
        Check.sentence("The place of a crew after a day is the one that it has when this day is over",
            ChartEdgesTests::whenTheDayIsOver);
        Check.sentence("that after 0 days is the one at the beginning", ChartEdgesTests::afterNoDay);
        Check.sentence("A crew rises on a day if its place is less than at the end of the day before, and falls if it "
            + "is greater", ChartEdgesTests::risesAndFalls);
        Check.sentence("has blades if at least one day is over", ChartEdgesTests::noDayIsOver);
        Check.sentence("and it has risen on all days that are over", ChartEdgesTests::risenOnAll);
        Check.sentence("has spoons if it has fallen on all of them", ChartEdgesTests::fallenOnAll);
        Check.sentence("The head is the crew with the place 0", ChartEdgesTests::head);
    }

    private static void promises() {
        Check.sentence("19: crew: number of the crew", () ->
            Check.range("crew", 0, 11, crew -> new BumpsChart().place(crew, 0)));
        Check.sentence("19: day: 0 to the days that are over", ChartEdgesTests::placeDays);
        Check.sentence("20: crew: number of the crew", () ->
            Check.range("crew", 0, 11, crew -> new BumpsChart().again(crew, 0)));
        Check.sentence("20: day: 0 to the days that are over", ChartEdgesTests::againDays);
        Check.sentence("20: following all bumps of finished races up to this day", ChartEdgesTests::upToThisDay);
        Check.sentence("20: found in a second way, with as many bumps as there can be", ChartEdgesTests::mostBumps);
        Check.sentence("21: the crew that rose most, from the day 0 to the days that are over",
            ChartEdgesTests::roseMost);
        Check.sentence("21: of several the one with the least place now", ChartEdgesTests::leastPlaceNow);
        Check.sentence("21: NOT_FOUND if no day is over", ChartEdgesTests::noBestRise);
    }

    private static void placeIs(BumpsChart x, int crew, int day, int due) {
        Check.due("place(" + crew + ", " + day + ")", x.place(crew, day), due);
        Check.due("again(" + crew + ", " + day + ")", x.again(crew, day), due);
    }

    private static void whenTheDayIsOver() {
        BumpsChart x = Charts.begun(6, 3, 2);
        Charts.raceWith(x, 4, 3);
        placeIs(x, 4, 0, 4);
        placeIs(x, 4, 1, Check.INVALID);
        Charts.raceWith(x, 4, 2);
        placeIs(x, 4, 1, 2);
        placeIs(x, 3, 1, 4);
        Charts.raceWith(x, 2, 5);
        Charts.raceWith(x, 5, 3);
        placeIs(x, 4, 1, 2);
        x = Charts.begun(6, 3, 2);
        Charts.finish(x, 2);
        Charts.raceWith(x, 4, 3);
        Check.due("its place now", x.crew(4, 1), 3);
        placeIs(x, 4, 1, 4);
        placeIs(x, 4, 2, Check.INVALID);
    }

    private static void afterNoDay() {
        BumpsChart x = Charts.begun(24, 3, 1);
        Charts.raceWith(x, 23, 22);
        placeIs(x, 23, 0, 23);
        placeIs(x, 22, 0, 22);
        Charts.finish(x, 7);
        placeIs(x, 23, 0, 23);
        placeIs(x, 23, 1, 22);
        x.begin(24, 8, 1);
        placeIs(x, 23, 0, 23);
        placeIs(x, 23, 1, Check.INVALID);
    }

    private static void standing(BumpsChart x, int crew, int risen, int fallen, int award) {
        Check.due("days risen, crew " + crew, x.crew(crew, 5), risen);
        Check.due("days fallen, crew " + crew, x.crew(crew, 6), fallen);
        Check.due("blades or spoons, crew " + crew, x.crew(crew, 7), award);
    }

    private static void risesAndFalls() {
        BumpsChart x = Charts.begun(3, 3, 4);
        Charts.raceWith(x, 1, 0);
        standing(x, 1, 1, 0, 1);
        standing(x, 0, 0, 1, 2);
        standing(x, 2, 0, 0, 0);
        Charts.raceWith(x, 0, 1);
        standing(x, 1, 1, 1, 0);
        standing(x, 0, 1, 1, 0);
        x.finish();
        standing(x, 1, 1, 1, 0);
        x.bump(2, 1);
        standing(x, 2, 0, 0, 0);
        x.finish();
        standing(x, 2, 1, 0, 0);
        standing(x, 1, 1, 2, 0);
    }

    private static void noDayIsOver() {
        BumpsChart x = Charts.begun(6, 3, 2);
        standing(x, 5, 0, 0, 0);
        Charts.raceWith(x, 5, 4);
        standing(x, 5, 0, 0, 0);
        standing(x, 4, 0, 0, 0);
        x.finish();
        standing(x, 5, 1, 0, 1);
        standing(x, 4, 0, 1, 2);
        x.undo();
        standing(x, 5, 0, 0, 0);
        standing(x, 4, 0, 0, 0);
    }

    private static void risenOnAll() {
        BumpsChart x = Charts.begun(8, 8, 6);
        for (int day = 1; day <= 6; day++) {
            Charts.raceWith(x, 7, x.at(7 - day));
            standing(x, 7, day, 0, 1);
            placeIs(x, 7, day, 7 - day);
        }
        Check.due("all six days are over", x.count(5), Check.NONE);
        x.undo();
        x.undo();
        x.finish();
        standing(x, 7, 5, 0, 0);
        x.begin(8, 8, 2);
        x.finish();
        Charts.raceWith(x, 7, 6);
        standing(x, 7, 1, 0, 0);
    }

    private static void fallenOnAll() {
        BumpsChart x = Charts.begun(8, 8, 6);
        for (int day = 1; day <= 6; day++) {
            Charts.raceWith(x, x.at(day), 0);
            standing(x, 0, 0, day, 2);
            placeIs(x, 0, day, day);
        }
        x.undo();
        x.undo();
        x.finish();
        standing(x, 0, 0, 5, 0);
        x.begin(8, 8, 2);
        x.finish();
        Charts.raceWith(x, 1, 0);
        standing(x, 0, 0, 1, 0);
    }

    private static void head() {
        BumpsChart x = Charts.race(2);
        Check.due("at first", x.count(12), 0);
        x.bump(1, 0);
        Check.due("before the race is finished", x.count(12), 0);
        x.finish();
        Check.due("then", x.count(12), 1);
        Charts.raceWith(x, 0, 1);
        Check.due("after all days", x.count(12), 0);
        x.undo();
        Check.due("undone", x.count(12), 1);
    }

    private static void daysAre(BumpsChart x, int over) {
        for (int crew = 0; crew < 2; crew++) {
            Check.holds("day 0", x.place(crew, 0) == crew && x.again(crew, 0) == crew);
            placeIs(x, crew, over, x.crew(crew, 1));
            placeIs(x, crew, over + 1, Check.INVALID);
            placeIs(x, crew, -1, Check.INVALID);
            placeIs(x, crew, Integer.MIN_VALUE, Check.INVALID);
            placeIs(x, crew, Integer.MAX_VALUE, Check.INVALID);
        }
    }

    private static void placeDays() {
        BumpsChart x = Charts.begun(2, 3, 6);
        daysAre(x, 0);
        for (int day = 1; day <= 6; day++) {
            Charts.raceWith(x, x.at(1), x.at(0));
            daysAre(x, day);
            Check.due("after the day " + day, x.place(0, day), day % 2);
        }
        for (int day = 0; day <= 6; day++) {
            Check.due("at last, after the day " + day, x.place(0, day), day % 2);
        }
        x.undo();
        daysAre(x, 5);
    }

    private static void againDays() {
        BumpsChart x = Charts.begun(24, 3, 6);
        Check.due("no day is over", x.again(23, 1), Check.INVALID);
        Charts.finish(x, 7);
        Check.due("not even after seven races of eight", x.again(23, 1), Check.INVALID);
        x.finish();
        Check.due("then", x.again(23, 1), 23);
        Check.due("not the next", x.again(23, 2), Check.INVALID);
        Charts.finish(x, 40);
        Check.due("the sixth", x.again(23, 6), 23);
        Check.due("no seventh", x.again(23, 7), Check.INVALID);
        Check.due("no crew and no day", x.again(24, 7), Check.INVALID);
    }

    private static void upToThisDay() {
        BumpsChart x = Charts.begun(6, 3, 3);
        Charts.finish(x, 2);
        Charts.raceWith(x, 4, 3);
        Check.due("a bump of a day that is not over", x.again(4, 1), 4);
        Charts.raceWith(x, 4, 2);
        Check.due("not that of the next day", x.again(4, 1), 4);
        Check.due("both of the day", x.again(4, 2), 2);
        Check.due("the one bumped by it first", x.again(3, 2), 4);
        Check.due("the one bumped by it then", x.again(2, 2), 3);
        x.bump(3, 2);
        Check.due("no bump of a race that is not finished", x.again(3, 2), 4);
        Charts.finish(x, 2);
        Check.due("the day 3", x.again(3, 3), 3);
        Check.due("no day 4", x.again(3, 4), Check.INVALID);
        x.undo();
        x.undo();
        x.rerow(0);
        Charts.finish(x, 2);
        Check.due("a bump taken back does not count", x.again(3, 3), 4);
    }

    private static void mostBumps() {
        for (int size = 3; size <= 8; size++) {
            BumpsChart x = Charts.begun(24, size, 6);
            while (x.count(5) != Check.NONE) {
                int starters = x.count(7);
                for (int a = starters - 1; a > 0; a -= 2) {
                    x.bump(x.starter(a), x.starter(a - 1));
                }
                x.finish();
            }
            for (int crew = 0; crew < 24; crew++) {
                Check.due("crew " + crew + " by " + size, x.again(crew, 6), x.crew(crew, 1));
                Check.due("crew " + crew + " by " + size, x.place(crew, 6), x.crew(crew, 1));
            }
        }
    }

    private static void roseMost() {
        BumpsChart x = Charts.begun(8, 4, 3);
        x.bump(6, 5);
        x.finish();
        x.bump(2, 1);
        x.bump(3, 0);
        x.finish();
        Check.due("by three places with one bump", x.bestRise(), 3);
        Charts.raceWith(x, 7, 5);
        Check.due("the day is not over", x.bestRise(), 3);
        Charts.raceWith(x, 0, 1);
        Check.due("still", x.bestRise(), 3);
        x.finish();
        Charts.raceWith(x, 2, 3);
        Check.due("by two places, as another one", x.bestRise(), 2);
        Check.due("that is ahead of it", x.place(3, 3), 1);
        BumpsChart back = Charts.begun(3, 3, 2);
        Charts.raceWith(back, 2, 1);
        Check.due("the only one that rose", back.bestRise(), 2);
        Charts.raceWith(back, 1, 2);
        Check.due("none rose in all", back.bestRise(), 0);
    }

    private static void leastPlaceNow() {
        BumpsChart level = new BumpsChart();
        Charts.finish(level, 3);
        Check.due("none rose: the head", level.bestRise(), 0);
        BumpsChart x = Charts.begun(8, 4, 4);
        Charts.raceWith(x, 6, 5);
        x.finish();
        Charts.raceWith(x, 7, 5);
        x.finish();
        Check.crews("two rose by one", x, 0, 1, 2, 3, 4, 6, 7, 5);
        Check.due("the one ahead", x.bestRise(), 6);
        x.bump(7, 6);
        Check.due("before the race is finished", x.bestRise(), 6);
        x.finish();
        Check.due("the one ahead now, in the midst of a day", x.bestRise(), 7);
        x.finish();
        Check.due("the one that rose by two then", x.bestRise(), 7);
        x.undo();
        x.undo();
        Check.due("undone", x.bestRise(), 6);
    }

    private static void noBestRise() {
        BumpsChart x = Charts.begun(6, 3, 1);
        Check.due("at first", x.bestRise(), Check.NONE);
        Charts.raceWith(x, 5, 4);
        Check.due("after a race", x.bestRise(), Check.NONE);
        x.finish();
        Check.due("after the only day", x.bestRise(), 5);
        x.begin(6, 3, 1);
        Check.due("anew", x.bestRise(), Check.NONE);
        x.undo();
        Check.due("undone", x.bestRise(), 5);
    }
}
