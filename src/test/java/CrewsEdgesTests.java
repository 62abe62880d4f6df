/** The boundaries that the document names for crews and divisions and in the promises 1 to 7, sentence by sentence. */
final class CrewsEdgesTests {
    private CrewsEdgesTests() { }

    static void run() {
        terms();
        promises();
    }

    private static void terms() {
        Check.sentence("An object is used for at most 512 calls", CrewsEdgesTests::the512thCall);
        Check.sentence("There are N crews (2 to 24, initially 12), numbered from 0", CrewsEdgesTests::crewNumbers);
        Check.sentence("and as many places, numbered from 0", CrewsEdgesTests::placeNumbers);
        Check.sentence("on the day 0 the crew k has the place k", CrewsEdgesTests::dayZero);
        Check.sentence("the division d has the places d * D to d * D + D - 1", CrewsEdgesTests::placesOfDivisions);
        Check.sentence("as far as there are such places", CrewsEdgesTests::lastDivision);
        Check.sentence("There are at most as many days as were told (1 to 6, initially 4)", CrewsEdgesTests::daysTold);
        Check.sentence("Each crew has a speed (1 to 1000 centimetres for each second, initially 400)",
            CrewsEdgesTests::firstSpeeds);
        Check.sentence("the lowest division races first, then the next one, up to the division 0",
            CrewsEdgesTests::lowestFirst);
        Check.sentence("then the day is over, and, if there is one, the next day begins", CrewsEdgesTests::nextDay);
        Check.sentence("When all days are over, there is no present race", CrewsEdgesTests::noPresentRace);
    }

    private static void promises() {
        Check.sentence("1: 12 crews, divisions of 4 places, and 4 days", CrewsEdgesTests::newObject);
        Check.sentence("2: crews: 2 to 24", () ->
            Check.range("crews", 2, 24, crews -> new BumpsChart().begin(crews, 3, 1)));
        Check.sentence("2: size: 3 to 8", () ->
            Check.range("size", 3, 8, size -> new BumpsChart().begin(24, size, 1)));
        Check.sentence("2: days: 1 to 6", () ->
            Check.range("days", 1, 6, days -> new BumpsChart().begin(24, 3, days)));
        Check.sentence("2: Returns the number of divisions", CrewsEdgesTests::numberOfDivisions);
        Check.sentence("2: INVALID_ARGUMENT if an argument is out of range", CrewsEdgesTests::beginRefused);
        Check.sentence("2: Begins anew", CrewsEdgesTests::nothingOfBefore);
        Check.sentence("2: Speeds become 400, settings stay", CrewsEdgesTests::speedsAnew);
        Check.sentence("3: crew: number of the crew", CrewsEdgesTests::setSpeedOfCrew);
        Check.sentence("3: speed: 1 to 1000", () ->
            Check.range("speed", 1, 1000, speed -> new BumpsChart().setSpeed(11, speed)));
        Check.sentence("3: Returns the previous speed", CrewsEdgesTests::previousSpeed);
        Check.sentence("4: what: 0 for the gap, 1 for the length of a race", () ->
            Check.range("what", 0, 1, what -> new BumpsChart().set(what, 500)));
        Check.sentence("4: 0 for the gap (100 to 5000)", () ->
            Check.range("gap", 100, 5000, gap -> new BumpsChart().set(0, gap)));
        Check.sentence("4: 1 for the length of a race (1 to 1000)", () ->
            Check.range("length", 1, 1000, length -> new BumpsChart().set(1, length)));
        Check.sentence("4: Returns the previous value", CrewsEdgesTests::previousValue);
        Check.sentence("5: what: 0 to 12", () -> Check.range("what", 0, 12, what -> new BumpsChart().count(what)));
        Check.sentence("5: NOT_FOUND for 5 to 7 if there is no present race", CrewsEdgesTests::countWithoutRace);
        Check.sentence("5: the least and the greatest counts", CrewsEdgesTests::extremeCounts);
        Check.sentence("6: crew: number of the crew", CrewsEdgesTests::crewOfCrew);
        Check.sentence("6: what: 0 to 9", () -> Check.range("what", 0, 9, what -> new BumpsChart().crew(11, what)));
        Check.sentence("6: NOT_FOUND for 3 and 4 if it is no starter", CrewsEdgesTests::crewNoStarter);
        Check.sentence("6: 2: its division now", CrewsEdgesTests::divisionNow);
        Check.sentence("6: 8: bumps that it has made in finished races; 9: those made on it",
            CrewsEdgesTests::bumpsOfFinishedRaces);
        Check.sentence("7: place: 0 to N - 1", CrewsEdgesTests::atPlace);
    }

    private static void the512thCall() {
        BumpsChart x = new BumpsChart();
        for (int call = 1; call <= 510; call++) {
            x.setSpeed(0, call);
        }
        Check.due("the call 511", x.undo(), 3);
        Check.due("the call 512", x.crew(0, 0), 509);
    }

    private static void crewNumbers() {
        for (int crews = 2; crews <= 24; crews++) {
            BumpsChart x = Charts.begun(crews, 8, 1);
            Check.due("as many as were told", x.count(0), crews);
            Check.due("the first crew", x.crew(0, 1), 0);
            Check.due("the last crew", x.crew(crews - 1, 1), crews - 1);
            Check.due("one too far", x.crew(crews, 1), Check.INVALID);
            Check.due("one too low", x.crew(-1, 1), Check.INVALID);
        }
    }

    private static void placeNumbers() {
        for (int crews = 2; crews <= 24; crews++) {
            BumpsChart x = Charts.begun(crews, 3, 1);
            Check.due("the first place", x.at(0), 0);
            Check.due("the last place", x.at(crews - 1), crews - 1);
            Check.due("one too far", x.at(crews), Check.INVALID);
            Check.due("one too low", x.at(-1), Check.INVALID);
        }
    }

    private static void dayZero() {
        for (int crews = 2; crews <= 24; crews++) {
            BumpsChart x = Charts.begun(crews, 8, 2);
            int last = crews - 1;
            for (int k = 0; k < crews; k++) {
                Check.due("the place of " + k, x.crew(k, 1), k);
            }
            while (x.count(4) == 0) {
                x.bump(x.starter(1), x.starter(0));
                x.finish();
            }
            Check.due("still after the day 0, first", x.place(0, 0), 0);
            Check.due("still after the day 0, last", x.place(last, 0), last);
            Check.due("still after the day 0, second way", x.again(0, 0), 0);
            Check.due("after the day 1", x.place(0, 1), 1);
        }
    }

    private static void placesOfDivisions() {
        for (int size = 3; size <= 8; size++) {
            BumpsChart x = Charts.begun(24, size, 1);
            for (int division = 0; division * size < 24; division++) {
                int first = division * size;
                int last = Math.min(first + size, 24) - 1;
                Check.due("the first place of " + division, x.crew(first, 2), division);
                Check.due("the last place of " + division, x.crew(last, 2), division);
            }
        }
    }

    private static void lastDivision() {
        for (int crews = 2; crews <= 24; crews++) {
            for (int size = 3; size <= 8; size++) {
                BumpsChart x = Charts.begun(crews, size, 1);
                int others = x.count(5) * size;
                Check.due("starters of the lowest of " + crews + " by " + size, x.count(7), crews - others);
                Check.due("its first starter", x.starter(0), others);
                Check.due("its last starter", x.starter(crews - others - 1), crews - 1);
                Check.due("no starter behind the last place", x.starter(crews - others), Check.NONE);
            }
        }
        Check.due("alone in the lowest", Charts.begun(9, 8, 1).count(7), 1);
        Check.due("a full lowest", Charts.begun(24, 8, 1).count(7), 8);
        Check.due("fewer crews than places of a division", Charts.begun(2, 8, 1).count(7), 2);
    }

    private static void daysTold() {
        for (int days = 1; days <= 6; days++) {
            BumpsChart x = Charts.begun(4, 3, days);
            Charts.finish(x, 2 * days - 1);
            Check.due("the last day is not over", x.count(4), days - 1);
            Check.due("its last race", x.finish(), 0);
            Check.due("the last day is over", x.count(4), days);
            Check.due("no further race", x.finish(), Check.IMPOSSIBLE);
            Check.due("no further day", x.count(4), days);
            Check.due("days told", x.count(3), days);
        }
        Check.due("initially", new BumpsChart().count(3), 4);
    }

    private static void firstSpeeds() {
        BumpsChart x = Charts.begun(24, 3, 1);
        for (int crew = 0; crew < 24; crew++) {
            Check.due("the speed of " + crew, x.crew(crew, 0), 400);
        }
        x.setSpeed(0, 1);
        x.setSpeed(23, 1000);
        Check.due("the least", x.crew(0, 0), 1);
        Check.due("the greatest", x.crew(23, 0), 1000);
    }

    private static void lowestFirst() {
        for (int crews = 2; crews <= 24; crews++) {
            for (int size = 3; size <= 8; size++) {
                BumpsChart x = Charts.begun(crews, size, 2);
                for (int day = 0; day < 2; day++) {
                    for (int division = x.count(2) - 1; division >= 0; division--) {
                        Check.due("present division", x.count(5), division);
                        Check.due("days over", x.count(4), day);
                        x.finish();
                    }
                }
                Check.due("both days over", x.count(4), 2);
            }
        }
    }

    private static void nextDay() {
        BumpsChart x = Charts.begun(7, 3, 2);
        x.finish();
        Charts.raceWith(x, 6, 5);
        Charts.raceWith(x, 1, 0);
        Check.due("a day is over", x.count(4), 1);
        Check.due("the lowest again", x.count(5), 2);
        Check.starters("with the places now", x, 5);
        x.finish();
        Check.starters("with the places now", x, 3, 4, 6, 5);
        x = Charts.begun(2, 3, 2);
        x.finish();
        Check.due("a single division comes again", x.count(5), 0);
        Check.due("a day is over", x.count(4), 1);
    }

    private static void noPresentRace() {
        BumpsChart x = Charts.over();
        x.setSpeed(1, 1000);
        Check.due("no starter", x.starter(0), Check.NONE);
        Check.due("no bump", x.bump(1, 0), Check.IMPOSSIBLE);
        Check.due("reason", x.why(1, 0), 2);
        Check.due("no bump of it", x.bumped(0, 0), Check.INVALID);
        Check.due("nothing to take back", x.rerow(0), Check.INVALID);
        Check.due("nothing to finish", x.finish(), Check.IMPOSSIBLE);
        Check.due("nothing to foretell", x.foretold(0, 0), Check.NONE);
        Check.due("nothing to row", x.row(), Check.IMPOSSIBLE);
        Check.due("no distance", x.distanceBits(1, 0), Check.NONE);
        Check.due("no speed", x.speedFor(1), Check.NONE);
        Check.write(x, "1-0;");
        Check.due("fault", x.fault(0), 0);
        Check.due("its reason", x.fault(1), 2);
        Check.due("nothing to enter", x.enter(), Check.IMPOSSIBLE);
        Check.due("the places stay", x.at(2), 2);
    }

    private static void newObject() {
        BumpsChart x = new BumpsChart();
        Check.due("crews", x.count(0), 12);
        Check.due("the last crew", x.crew(11, 1), 11);
        Check.due("no further crew", x.crew(12, 1), Check.INVALID);
        Check.due("places of a division", x.count(1), 4);
        Check.due("divisions", x.count(2), 3);
        Charts.finish(x, 11);
        Check.due("the fourth day is not over", x.count(4), 3);
        Check.due("its last race", x.finish(), 0);
        Check.due("four days", x.count(4), 4);
        Check.due("and no more", x.finish(), Check.IMPOSSIBLE);
    }

    private static void numberOfDivisions() {
        int[][] due = {{2, 3, 1}, {3, 3, 1}, {4, 3, 2}, {6, 3, 2}, {7, 3, 3}, {8, 8, 1}, {9, 8, 2}, {16, 8, 2},
            {17, 8, 3}, {24, 8, 3}, {23, 3, 8}, {24, 3, 8}, {22, 3, 8}, {21, 3, 7}, {2, 8, 1}};
        for (int[] d : due) {
            Check.due(d[0] + " crews by " + d[1], new BumpsChart().begin(d[0], d[1], 1), d[2]);
        }
    }

    private static void beginRefused() {
        int[][] wrong = {{1, 3, 1}, {25, 3, 1}, {2, 2, 1}, {2, 9, 1}, {2, 3, 0}, {2, 3, 7}, {1, 2, 0}, {25, 9, 7},
            {0, 0, 0}, {-12, 4, 4}, {12, -4, 4}, {12, 4, -4}};
        for (int[] w : wrong) {
            BumpsChart x = new BumpsChart();
            x.setSpeed(11, 5);
            Check.due("refused", x.begin(w[0], w[1], w[2]), Check.INVALID);
            Check.due("the crews stay", x.count(0), 12);
            Check.due("the places stay", x.count(1), 4);
            Check.due("the days stay", x.count(3), 4);
            Check.due("the speeds stay", x.crew(11, 0), 5);
            Check.due("no state is recorded", x.count(10), 1);
        }
    }

    /** After begin all that is told, at first and after each race, is what a chart tells that never was another. */
    private static void nothingOfBefore() {
        for (int races = 0; races <= 6; races++) {
            BumpsChart used = Charts.begun(6, 3, 3);
            for (int race = 0; race < races; race++) {
                Charts.raceWith(used, used.starter(1), used.starter(0));
            }
            used.bump(used.starter(used.count(7) - 1), used.starter(used.count(7) - 2));
            used.begin(5, 3, 2);
            BumpsChart fresh = new BumpsChart();
            Charts.finish(fresh, 4);
            fresh.begin(5, 3, 2);
            used.setSpeed(0, 400);
            used.setSpeed(0, 400);
            Check.same("at first, after " + races, Check.told(used), Check.told(fresh));
            Charts.finish(used, 2);
            Charts.finish(fresh, 2);
            Check.same("a day without bumps, after " + races, Check.told(used), Check.told(fresh));
            Charts.raceWith(used, 4, 3);
            Charts.raceWith(fresh, 4, 3);
            used.finish();
            fresh.finish();
            Check.same("a day with a bump, after " + races, Check.told(used), Check.told(fresh));
        }
    }

    private static void speedsAnew() {
        BumpsChart x = Charts.begun(24, 3, 1);
        x.setSpeed(0, 1);
        x.setSpeed(23, 1000);
        x.set(0, 100);
        x.set(1, 1000);
        x.begin(2, 3, 1);
        Check.due("the speed of the first", x.crew(0, 0), 400);
        x.begin(24, 3, 1);
        Check.due("the speed of the last", x.crew(23, 0), 400);
        Check.due("the gap", x.count(8), 100);
        Check.due("the length", x.count(9), 1000);
    }

    private static void setSpeedOfCrew() {
        Check.range("of 12", 0, 11, crew -> new BumpsChart().setSpeed(crew, 5));
        Check.range("of 2", 0, 1, crew -> Charts.begun(2, 8, 6).setSpeed(crew, 5));
        Check.range("of 24", 0, 23, crew -> Charts.begun(24, 8, 6).setSpeed(crew, 5));
    }

    private static void previousSpeed() {
        BumpsChart x = new BumpsChart();
        Check.due("at first", x.setSpeed(11, 1), 400);
        Check.due("the least", x.setSpeed(11, 1000), 1);
        Check.due("the greatest", x.setSpeed(11, 1000), 1000);
        Check.due("refused", x.setSpeed(11, 1001), Check.INVALID);
        Check.due("the one before the refused call", x.setSpeed(11, 2), 1000);
    }

    private static void previousValue() {
        BumpsChart x = new BumpsChart();
        Check.due("the gap at first", x.set(0, 100), 1500);
        Check.due("the least gap", x.set(0, 5000), 100);
        Check.due("refused", x.set(0, 5001), Check.INVALID);
        Check.due("the greatest gap", x.set(0, 5000), 5000);
        Check.due("the length at first", x.set(1, 1), 300);
        Check.due("the least length", x.set(1, 1000), 1);
        Check.due("refused", x.set(1, 1001), Check.INVALID);
        Check.due("the greatest length", x.set(1, 1000), 1000);
        Check.due("the gap's least value is no length", new BumpsChart().set(1, 5000), Check.INVALID);
        Check.due("the length's least value is no gap", new BumpsChart().set(0, 1), Check.INVALID);
    }

    private static void countWithoutRace() {
        BumpsChart x = Charts.over();
        int[] due = {3, 3, 1, 1, 1, Check.NONE, Check.NONE, Check.NONE, 1500, 300, 2, 0, 0};
        for (int what = 0; what < due.length; what++) {
            Check.due("count(" + what + ")", x.count(what), due[what]);
        }
        Check.due("out of range all the same", x.count(13), Check.INVALID);
        x.undo();
        Check.due("the race is there again", x.count(5), 0);
    }

    private static void extremeCounts() {
        BumpsChart x = Charts.begun(9, 8, 1);
        Check.due("one starter", x.count(7), 1);
        Check.due("no bump", x.count(6), 0);
        x.finish();
        Check.due("nine starters", x.count(7), 9);
        for (int a = 1; a < 8; a += 2) {
            x.bump(a, a - 1);
        }
        Check.due("four bumps", x.count(6), 4);
        Check.due("the head as long as they row", x.count(12), 0);
        Check.due("four states", x.count(10), 4);
        x.finish();
        Check.due("the head then", x.count(12), 1);
        for (int i = 0; i < 80; i++) {
            x.type(' ');
        }
        Check.due("80 characters", x.count(11), 80);
    }

    private static void crewOfCrew() {
        for (int what = 0; what <= 9; what++) {
            int asked = what;
            Check.range("of 9, " + what, 0, 8, crew -> Charts.race(9).crew(crew, asked));
            Check.range("of 2, " + what, 0, 1, crew -> Charts.race(2).crew(crew, asked));
        }
    }

    private static void crewNoStarter() {
        BumpsChart x = new BumpsChart();
        x.finish();
        for (int crew = 0; crew < 12; crew++) {
            boolean starts = crew >= 4 && crew <= 8;
            Check.due("the number of " + crew, x.crew(crew, 3), starts ? crew - 4 : Check.NONE);
            Check.due("whether out, " + crew, x.crew(crew, 4), starts ? 0 : Check.NONE);
            for (int what = 0; what <= 9; what++) {
                Check.holds("others of " + crew, what == 3 || what == 4 || x.crew(crew, what) >= 0);
            }
        }
        Check.due("no crew rather than no starter", x.crew(12, 3), Check.INVALID);
        Check.due("what rather than no starter", x.crew(0, 10), Check.INVALID);
        BumpsChart over = Charts.over();
        Check.due("no present race", over.crew(0, 3), Check.NONE);
        Check.due("no present race", over.crew(0, 4), Check.NONE);
    }

    private static void divisionNow() {
        BumpsChart x = Charts.begun(4, 3, 1);
        x.finish();
        Check.due("the sandwich crew's", x.crew(3, 2), 1);
        x.bump(3, 2);
        Check.due("before the end", x.crew(3, 2), 1);
        x.finish();
        Check.due("over the edge", x.crew(3, 2), 0);
        Check.due("below the edge", x.crew(2, 2), 1);
    }

    private static void bumpsOfFinishedRaces() {
        BumpsChart x = Charts.race(2);
        x.bump(1, 0);
        Check.due("not yet made", x.crew(1, 8), 0);
        Check.due("not yet suffered", x.crew(0, 9), 0);
        x.finish();
        Check.due("made", x.crew(1, 8), 1);
        Check.due("suffered", x.crew(0, 9), 1);
        Charts.raceWith(x, 0, 1);
        Check.due("made by the other", x.crew(0, 8), 1);
        Check.due("suffered by the other", x.crew(1, 9), 1);
        x.undo();
        Check.due("taken back with the race", x.crew(0, 8), 0);
        x.begin(2, 3, 1);
        Check.due("none anew", x.crew(1, 8), 0);
        mostBumpsOfACrew();
    }

    /** A crew that climbs from the foot of eight divisions of three: its two bumps a race are counted all. */
    private static void mostBumpsOfACrew() {
        BumpsChart x = Charts.begun(24, 3, 1);
        int climber = 22;
        for (int division = 7; division >= 0; division--) {
            int number = x.crew(climber, 3);
            if (number == 3) {
                x.bump(x.starter(2), x.starter(1));
            }
            Check.due("it climbs", x.bump(climber, x.starter(0)), number == 3 ? 1 : 0);
            x.finish();
        }
        Check.due("it is the head", x.count(12), climber);
        Check.due("a bump in each race", x.crew(climber, 8), 8);
        Check.due("and none on it", x.crew(climber, 9), 0);
        Check.due("risen on one day", x.crew(climber, 5), 1);
        Check.due("to the place 0", x.place(climber, 1), 0);
        Check.due("in the second way too", x.again(climber, 1), 0);
    }

    private static void atPlace() {
        Check.range("of 12", 0, 11, place -> new BumpsChart().at(place));
        Check.range("of 2", 0, 1, place -> Charts.begun(2, 8, 1).at(place));
        Check.range("of 24", 0, 23, place -> Charts.begun(24, 3, 1).at(place));
        BumpsChart x = Charts.race(2);
        Charts.raceWith(x, 1, 0);
        Check.due("the first place now", x.at(0), 1);
        Check.due("the last place now", x.at(1), 0);
    }
}
