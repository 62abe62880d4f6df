/** The boundaries that the document names for foretelling and in the promises 15 to 18, sentence by sentence. */
final class ForetellingEdgesTests {
    private ForetellingEdgesTests() { }

    static void run() {
        terms();
        promises();
    }

    private static void terms() {
        Check.sentence("at the time t a starter is at (double) speed * t - (double) (k * gap)",
            ForetellingEdgesTests::positions);
        Check.sentence("the gap is a setting (100 to 5000 centimetres, initially 1500)",
            ForetellingEdgesTests::firstGap);
        Check.sentence("the length of the race (a setting, 1 to 1000 seconds, initially 300)",
            ForetellingEdgesTests::firstLength);
        Check.sentence("Of all pairs of starters, not out, a behind b, with all crews between them out",
            ForetellingEdgesTests::pairs);
        Check.sentence("and the speed of a greater than that of b", ForetellingEdgesTests::greaterSpeed);
        Check.sentence("the one of the pair with the least time", ForetellingEdgesTests::leastTime);
        Check.sentence("of several the one with the least number of b", ForetellingEdgesTests::ofSeveral);
        Check.sentence("if this time is at most the length of the race", ForetellingEdgesTests::atMostTheLength);
        Check.sentence("as if none had been made yet", ForetellingEdgesTests::asIfNoneWereMade);
        Check.sentence("until there is none", ForetellingEdgesTests::untilThereIsNone);
    }

    private static void promises() {
        Check.sentence("15: index: 0 for the first one, and so on", ForetellingEdgesTests::foretoldIndex);
        Check.sentence("15: what: 0 to 2", () -> Check.range("what", 0, 2, what -> pairsOf(8).foretold(3, what)));
        Check.sentence("15: INVALID_ARGUMENT if index is negative or what is out of range",
            ForetellingEdgesTests::foretoldInvalid);
        Check.sentence("15: NOT_FOUND if there are not so many, or there is no present race",
            ForetellingEdgesTests::foretoldNotFound);
        Check.sentence("15: the double that is cast to float", ForetellingEdgesTests::bitsOfTimes);
        Check.sentence("16: Returns how many there are", ForetellingEdgesTests::rowCounts);
        Check.sentence("16: Makes all foretold bumps, and finishes the race", ForetellingEdgesTests::rowIsFinish);
        Check.sentence("16: NOT_POSSIBLE if there is no present race, or a bump was made in it",
            ForetellingEdgesTests::rowNotPossible);
        Check.sentence("17: index: number of the starter in the order of the starters, from 1",
            ForetellingEdgesTests::distanceIndex);
        Check.sentence("17: time: 0 to 1000", () ->
            Check.range("time", 0, 1000, time -> Charts.race(2).distanceBits(1, time)));
        Check.sentence("17: INVALID_ARGUMENT if index is less than 1 or time is out of range",
            ForetellingEdgesTests::distanceInvalid);
        Check.sentence("17: NOT_FOUND if there are not so many starters, or there is no present race",
            ForetellingEdgesTests::distanceNotFound);
        Check.sentence("17: where the one before is minus where it is", ForetellingEdgesTests::distanceSigns);
        Check.sentence("17: the distance cast to float", ForetellingEdgesTests::bitsOfDistances);
        Check.sentence("18: Returns the speed, 1 to 1000", ForetellingEdgesTests::leastAndGreatestSpeed);
        Check.sentence("18: all other speeds being as they are", ForetellingEdgesTests::otherSpeedsStay);
        Check.sentence("18: crew: number of the crew", ForetellingEdgesTests::speedForInvalid);
        Check.sentence("18: NOT_FOUND if it is no starter, or there is none", ForetellingEdgesTests::speedForNotFound);
        Check.sentence("18: would bump some crew, by the foretelling", ForetellingEdgesTests::itsSpeedBumps);
    }

    private static int bits(double value) {
        return Float.floatToIntBits((float) value);
    }

    /** Each second crew is faster by 10 than the one ahead. */
    private static BumpsChart pairsOf(int starters) {
        BumpsChart x = Charts.race(starters);
        for (int crew = 1; crew < starters; crew += 2) {
            x.setSpeed(crew, 410);
        }
        return x;
    }

    private static void bumpIs(BumpsChart x, int index, int a, int b, double time) {
        Check.due("a of " + index, x.foretold(index, 0), a);
        Check.due("b of " + index, x.foretold(index, 1), b);
        Check.due("time of " + index, x.foretold(index, 2), bits(time));
    }

    private static void positions() {
        BumpsChart x = Charts.raceOf(1, 1000, 1, 1, 1, 1, 1, 1, 1000);
        Check.due("nine starters", x.count(7), 9);
        for (int index = 1; index <= 8; index++) {
            Check.due("at the time 0, " + index, x.distanceBits(index, 0), bits(1500.0));
        }
        Check.due("at the time 1000, overtaken", x.distanceBits(1, 1000), bits(1500.0 - 999000.0));
        Check.due("at the time 1000, left behind", x.distanceBits(2, 1000), bits(1500.0 + 999000.0));
        Check.due("at the time 1000, the last one", x.distanceBits(8, 1000), bits(1500.0 - 999000.0));
        Check.due("at the time 1000, as fast", x.distanceBits(7, 1000), bits(1500.0));
    }

    private static void firstGap() {
        BumpsChart x = Charts.race(2);
        Check.due("at first", x.distanceBits(1, 0), bits(1500.0));
        x.set(0, 100);
        Check.due("the least", x.distanceBits(1, 0), bits(100.0));
        x.set(0, 5000);
        Check.due("the greatest", x.distanceBits(1, 0), bits(5000.0));
        x.setSpeed(1, 500);
        bumpIs(x, 0, 1, 0, 50.0);
        x.set(0, 100);
        bumpIs(x, 0, 1, 0, 1.0);
    }

    private static void firstLength() {
        BumpsChart x = Charts.raceOf(400, 405);
        bumpIs(x, 0, 1, 0, 300.0);
        x.setSpeed(1, 404);
        Check.due("375 seconds are too long", x.foretold(0, 0), Check.NONE);
        x.set(1, 1000);
        bumpIs(x, 0, 1, 0, 375.0);
        x.set(1, 1);
        x.set(0, 100);
        x.setSpeed(1, 500);
        bumpIs(x, 0, 1, 0, 1.0);
        x.setSpeed(1, 499);
        Check.due("100 / 99 seconds are too long", x.foretold(0, 0), Check.NONE);
    }

    private static void pairs() {
        BumpsChart x = Charts.raceOf(100, 900, 400, 900);
        x.set(1, 1);
        x.set(0, 700);
        bumpIs(x, 0, 1, 0, 0.875);
        Check.due("2 is slower than 1, and 3 needs too long", x.foretold(1, 0), Check.NONE);
        x.set(1, 2);
        bumpIs(x, 1, 3, 2, 1.4);
        Check.due("no more", x.foretold(2, 0), Check.NONE);
        BumpsChart over = Charts.raceOf(400, 400, 900, 1000);
        bumpIs(over, 0, 2, 1, 3.0);
        bumpIs(over, 1, 3, 0, 7.5);
        BumpsChart between = Charts.raceOf(100, 500, 300);
        bumpIs(between, 0, 1, 0, 3.75);
        Check.due("the last one finds nobody", between.foretold(1, 0), Check.NONE);
    }

    private static void greaterSpeed() {
        BumpsChart x = Charts.raceOf(400, 400);
        x.set(0, 100);
        x.set(1, 1000);
        Check.due("as fast", x.foretold(0, 0), Check.NONE);
        x.setSpeed(1, 399);
        Check.due("slower by one", x.foretold(0, 0), Check.NONE);
        x.setSpeed(1, 401);
        bumpIs(x, 0, 1, 0, 100.0);
        x.setSpeed(0, 1);
        x.setSpeed(1, 1);
        Check.due("as fast, the least", x.foretold(0, 0), Check.NONE);
        x.setSpeed(1, 2);
        bumpIs(x, 0, 1, 0, 100.0);
        x.setSpeed(0, 1000);
        x.setSpeed(1, 1000);
        Check.due("as fast, the greatest", x.foretold(0, 0), Check.NONE);
        x.setSpeed(0, 1);
        bumpIs(x, 0, 1, 0, 100.0 / 999.0);
    }

    private static void leastTime() {
        BumpsChart x = Charts.raceOf(400, 410, 421);
        bumpIs(x, 0, 2, 1, 1500.0 / 11.0);
        Check.due("the first finds nobody behind", x.foretold(1, 0), Check.NONE);
        x = Charts.raceOf(400, 411, 421);
        bumpIs(x, 0, 1, 0, 1500.0 / 11.0);
        Check.due("the last finds nobody ahead", x.foretold(1, 0), Check.NONE);
        x = Charts.raceOf(500, 400, 450, 511, 400, 462, 500, 400, 490);
        bumpIs(x, 0, 8, 7, 1500.0 / 90.0);
        bumpIs(x, 1, 5, 4, 1500.0 / 62.0);
        bumpIs(x, 2, 3, 2, 1500.0 / 61.0);
        Check.due("the crews 0, 1 and 6 are left", x.foretold(3, 0), 6);
        Check.due("the crew 6 goes on to the crew 1", x.foretold(3, 1), 1);
        Check.due("over four", x.foretold(3, 2), bits(7500.0 / 100.0));
        Check.due("the crew 0 alone", x.foretold(4, 0), Check.NONE);
    }

    private static void ofSeveral() {
        bumpIs(Charts.raceOf(400, 410, 420), 0, 1, 0, 150.0);
        bumpIs(Charts.raceOf(410, 400, 410, 420), 0, 2, 1, 150.0);
        BumpsChart x = pairsOf(9);
        for (int i = 0; i < 4; i++) {
            bumpIs(x, i, 2 * i + 1, 2 * i, 150.0);
        }
        BumpsChart wide = Charts.raceOf(370, 370, 800, 400, 400, 410);
        bumpIs(wide, 0, 2, 1, 1500.0 / 430.0);
        bumpIs(wide, 1, 3, 0, 4500.0 / 30.0);
        bumpIs(wide, 2, 5, 4, 1500.0 / 10.0);
        BumpsChart third = Charts.raceOf(379, 370, 800, 400, 400, 407);
        bumpIs(third, 1, 3, 0, 4500.0 / 21.0);
        bumpIs(third, 2, 5, 4, 1500.0 / 7.0);
        BumpsChart foot = Charts.raceOf(400, 410, 400, 370, 800, 430);
        bumpIs(foot, 0, 4, 3, 1500.0 / 430.0);
        bumpIs(foot, 1, 1, 0, 1500.0 / 10.0);
        bumpIs(foot, 2, 5, 2, 4500.0 / 30.0);
    }

    private static void atMostTheLength() {
        BumpsChart x = Charts.raceOf(1, 1000);
        x.set(1, 1);
        x.set(0, 999);
        bumpIs(x, 0, 1, 0, 1.0);
        x.set(0, 1000);
        Check.due("by a thousandth too long", x.foretold(0, 0), Check.NONE);
        x.set(1, 2);
        bumpIs(x, 0, 1, 0, 1000.0 / 999.0);
        BumpsChart greatest = Charts.raceOf(395, 400);
        greatest.set(0, 5000);
        greatest.set(1, 1000);
        bumpIs(greatest, 0, 1, 0, 1000.0);
        greatest.set(1, 999);
        Check.due("a second too long", greatest.foretold(0, 0), Check.NONE);
        greatest.set(1, 1000);
        greatest.setSpeed(0, 396);
        Check.due("1250 seconds", greatest.foretold(0, 0), Check.NONE);
        BumpsChart wide = Charts.raceOf(400, 300, 900, 300, 900, 300, 900, 435);
        wide.set(0, 5000);
        wide.set(1, 1000);
        bumpIs(wide, 3, 7, 0, 1000.0);
        wide.setSpeed(7, 434);
        Check.due("over six, too long", wide.foretold(3, 0), Check.NONE);
        atMostTheLengthOfSeveral();
    }

    /** At the very length of the race the crew with the least number of b is still the first one. */
    private static void atMostTheLengthOfSeveral() {
        BumpsChart x = pairsOf(6);
        x.set(1, 150);
        bumpIs(x, 0, 1, 0, 150.0);
        bumpIs(x, 1, 3, 2, 150.0);
        bumpIs(x, 2, 5, 4, 150.0);
        x.set(1, 149);
        Check.due("all too long", x.foretold(0, 0), Check.NONE);
    }

    private static void asIfNoneWereMade() {
        BumpsChart x = pairsOf(9);
        x.bump(2, 1);
        x.bump(3, 0);
        x.bump(5, 4);
        for (int i = 0; i < 4; i++) {
            bumpIs(x, i, 2 * i + 1, 2 * i, 150.0);
        }
        Check.due("no more", x.foretold(4, 0), Check.NONE);
        Check.due("the bumps made stay", x.count(6), 3);
    }

    private static void untilThereIsNone() {
        for (int starters = 2; starters <= 9; starters++) {
            BumpsChart x = pairsOf(starters);
            int bumps = starters / 2;
            Check.due("the last of " + starters, x.foretold(bumps - 1, 1), 2 * bumps - 2);
            Check.due("no more of " + starters, x.foretold(bumps, 0), Check.NONE);
        }
        Check.due("none at all", Charts.race(9).foretold(0, 0), Check.NONE);
        Check.due("a crew alone", Charts.begun(4, 3, 1).foretold(0, 0), Check.NONE);
    }

    private static void foretoldIndex() {
        BumpsChart x = pairsOf(9);
        for (int what = 0; what <= 2; what++) {
            Check.holds("the first, " + what, x.foretold(0, what) >= 0);
            Check.holds("the fourth, " + what, x.foretold(3, what) >= 0);
            Check.due("no fifth, " + what, x.foretold(4, what), Check.NONE);
            Check.due("far off, " + what, x.foretold(Integer.MAX_VALUE, what), Check.NONE);
        }
    }

    private static void foretoldInvalid() {
        BumpsChart x = pairsOf(9);
        for (int what = 0; what <= 2; what++) {
            Check.due("-1", x.foretold(-1, what), Check.INVALID);
            Check.due("least", x.foretold(Integer.MIN_VALUE, what), Check.INVALID);
        }
        for (int index = 0; index <= 4; index += 4) {
            Check.due("what -1, index " + index, x.foretold(index, -1), Check.INVALID);
            Check.due("what 3, index " + index, x.foretold(index, 3), Check.INVALID);
        }
        Check.due("no race, index", Charts.over().foretold(-1, 0), Check.INVALID);
        Check.due("no race, what", Charts.over().foretold(0, 3), Check.INVALID);
    }

    private static void foretoldNotFound() {
        for (int what = 0; what <= 2; what++) {
            Check.due("none at all", Charts.race(9).foretold(0, what), Check.NONE);
            Check.due("no race", Charts.over().foretold(0, what), Check.NONE);
        }
    }

    private static void bitsOfTimes() {
        for (int gap : new int[] {100, 101, 1500, 4999, 5000}) {
            for (int from = 1; from < 1000; from += 100) {
                BumpsChart x = Charts.raceOf(1, 1000);
                x.set(1, 1000);
                x.set(0, gap);
                for (int closing = from; closing < from + 100 && closing <= 999; closing++) {
                    x.setSpeed(1, 1 + closing);
                    double time = (double) gap / (double) closing;
                    Check.due(gap + " / " + closing, x.foretold(0, 2), time <= 1000.0 ? bits(time) : Check.NONE);
                }
            }
        }
    }

    private static void rowCounts() {
        Check.due("none", Charts.race(9).row(), 0);
        Check.due("four", pairsOf(9).row(), 4);
        Check.due("one", Charts.raceOf(400, 405).row(), 1);
        Check.due("none within the length", Charts.raceOf(400, 404).row(), 0);
        Check.due("a crew alone", Charts.begun(4, 3, 1).row(), 0);
    }

    private static void rowIsFinish() {
        BumpsChart x = Charts.begun(9, 8, 1);
        x.setSpeed(8, 1000);
        Check.due("alone", x.row(), 0);
        Check.due("the next division", x.count(5), 0);
        Check.due("the sandwich crew bumps", x.row(), 1);
        Check.due("it is up", x.at(7), 8);
        Check.due("the day is over", x.count(4), 1);
        Check.due("the bump is counted", x.crew(8, 8), 1);
        Check.due("no race is left", x.count(5), Check.NONE);
        Check.due("it is one change", x.undo(), 3);
        Check.due("the race is there again", x.count(5), 0);
        Check.due("without a bump", x.count(6), 0);
    }

    private static void rowNotPossible() {
        BumpsChart over = Charts.over();
        int states = over.count(10);
        Check.due("no race", over.row(), Check.IMPOSSIBLE);
        Check.due("no state is recorded", over.count(10), states);
        BumpsChart x = pairsOf(9);
        x.bump(1, 0);
        Check.due("the bump foretold is made", x.row(), Check.IMPOSSIBLE);
        Check.due("the race goes on", x.count(6), 1);
        x.finish();
        Check.due("none was made in the next race", x.row(), 0);
        BumpsChart y = pairsOf(2);
        Check.write(y, "1-0;");
        y.enter();
        Check.due("made by a text", y.row(), Check.IMPOSSIBLE);
        y.undo();
        Check.due("undone", y.row(), 1);
    }

    private static void distanceIndex() {
        for (int starters = 2; starters <= 9; starters++) {
            BumpsChart x = Charts.race(starters);
            Check.due("the first has none before it", x.distanceBits(0, 0), Check.INVALID);
            Check.due("the second", x.distanceBits(1, 0), bits(1500.0));
            Check.due("the last of " + starters, x.distanceBits(starters - 1, 0), bits(1500.0));
            Check.due("one too far of " + starters, x.distanceBits(starters, 0), Check.NONE);
        }
    }

    private static void distanceInvalid() {
        BumpsChart x = Charts.race(2);
        int[][] wrong = {{0, 0}, {-1, 0}, {Integer.MIN_VALUE, 1000}, {1, -1}, {1, 1001}, {1, Integer.MIN_VALUE},
            {1, Integer.MAX_VALUE}, {0, 1001}, {2, 1001}, {Integer.MAX_VALUE, -1}};
        for (int[] w : wrong) {
            Check.due("index " + w[0] + ", time " + w[1], x.distanceBits(w[0], w[1]), Check.INVALID);
            Check.due("no race, the same", Charts.over().distanceBits(w[0], w[1]), Check.INVALID);
        }
    }

    private static void distanceNotFound() {
        Check.due("not three", Charts.race(2).distanceBits(2, 0), Check.NONE);
        Check.due("far off", Charts.race(2).distanceBits(Integer.MAX_VALUE, 1000), Check.NONE);
        Check.due("a crew alone", Charts.begun(4, 3, 1).distanceBits(1, 0), Check.NONE);
        Check.due("no race", Charts.over().distanceBits(1, 0), Check.NONE);
        Check.due("no race", Charts.over().distanceBits(1, 1000), Check.NONE);
    }

    private static void distanceSigns() {
        BumpsChart x = Charts.raceOf(400, 415, 399);
        Check.due("just behind", x.distanceBits(1, 99), bits(15.0));
        Check.due("level: no sign", x.distanceBits(1, 100), 0);
        Check.due("just past", x.distanceBits(1, 101), bits(-15.0));
        Check.due("left behind", x.distanceBits(2, 1), bits(1516.0));
        x.bump(1, 0);
        Check.due("were there no bumps", x.distanceBits(1, 101), bits(-15.0));
        x.finish();
        Check.due("who is before changes with the places", x.distanceBits(1, 100), bits(1500.0 + 1500.0));
    }

    private static void bitsOfDistances() {
        for (int faster = 1; faster <= 1000; faster += 9) {
            BumpsChart x = Charts.raceOf(500, faster);
            for (int time = 0; time <= 1000; time += 40) {
                int distance = 1500 + (500 - faster) * time;
                Check.due(faster + " at " + time, x.distanceBits(1, time), bits(distance));
            }
        }
    }

    private static void leastAndGreatestSpeed() {
        BumpsChart x = Charts.raceOf(1, 1);
        x.set(0, 100);
        x.set(1, 100);
        Check.due("faster by one", x.speedFor(1), 2);
        x.set(1, 99);
        Check.due("in 99 seconds", x.speedFor(1), 3);
        BumpsChart y = Charts.raceOf(995, 1);
        Check.due("the greatest", y.speedFor(1), 1000);
        y.setSpeed(0, 996);
        Check.due("not even the greatest", y.speedFor(1), Check.NONE);
        y.set(1, 375);
        Check.due("in a longer race the greatest", y.speedFor(1), 1000);
        y.set(1, 374);
        Check.due("one second less", y.speedFor(1), Check.NONE);
        y.set(0, 100);
        y.set(1, 1000);
        y.setSpeed(0, 1000);
        Check.due("none is faster than the greatest", y.speedFor(1), Check.NONE);
        y.setSpeed(0, 999);
        Check.due("but than the next one", y.speedFor(1), 1000);
    }

    private static void otherSpeedsStay() {
        BumpsChart x = Charts.raceOf(400, 900, 400);
        Check.due("its own speed does not count", x.speedFor(1), 405);
        Check.due("that of the others does: too slow to be before", x.speedFor(2), Check.NONE);
        x.setSpeed(1, 404);
        Check.due("the crew 1 bumps nobody", x.speedFor(2), 409);
        Check.due("no speed is changed", x.crew(2, 0), 400);
        Check.due("no change is recorded", x.count(10), 4);
        x.bump(1, 0);
        Check.due("as if none had been made", x.speedFor(2), 409);
    }

    private static void speedForInvalid() {
        for (int crew : new int[] {-1, 12, Integer.MIN_VALUE, Integer.MAX_VALUE}) {
            Check.due("no crew " + crew, new BumpsChart().speedFor(crew), Check.INVALID);
            Check.due("no race and no crew " + crew, Charts.over().speedFor(crew), Check.INVALID);
        }
        Check.due("the last crew", new BumpsChart().speedFor(11), 405);
        Check.due("the first crew", new BumpsChart().speedFor(0), Check.NONE);
    }

    private static void speedForNotFound() {
        BumpsChart x = new BumpsChart();
        x.finish();
        int[] due = {Check.NONE, Check.NONE, Check.NONE, Check.NONE, Check.NONE, 405, 405, 405, 405, Check.NONE,
            Check.NONE, Check.NONE};
        for (int crew = 0; crew < due.length; crew++) {
            Check.due("crew " + crew, x.speedFor(crew), due[crew]);
        }
        Check.due("no race", Charts.over().speedFor(1), Check.NONE);
        Check.due("a crew alone", Charts.begun(4, 3, 1).speedFor(3), Check.NONE);
    }

    /** The crew whose speed is asked is not bumped before it bumps, and bumps with that speed, but not with less. */
    private static void itsSpeedBumps() {
        int[][] races = {{400, 400, 600}, {100, 420, 900, 400}, {300, 310, 450, 403, 410, 455}, {999, 1, 1000, 5},
            {380, 390, 400, 410, 420, 430, 440, 450, 460}, {460, 450, 440, 430, 420, 410, 400, 390, 380}};
        for (int[] speeds : races) {
            for (int crew = 0; crew < speeds.length; crew++) {
                int told = Charts.raceOf(speeds).speedFor(crew);
                int least = 1;
                while (least <= 1000 && !bumps(speeds, crew, least)) {
                    least++;
                }
                Check.due("crew " + crew, told, least <= 1000 ? least : Check.NONE);
            }
        }
    }

    private static boolean bumps(int[] speeds, int crew, int speed) {
        BumpsChart x = Charts.raceOf(speeds);
        x.setSpeed(crew, speed);
        x.row();
        return x.crew(crew, 8) == 1;
    }
}
