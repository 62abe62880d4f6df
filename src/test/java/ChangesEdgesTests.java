/** The boundaries that the document names for changes, the history and errors, sentence by sentence. */
final class ChangesEdgesTests {
    private static final int[] NUMBERS = {Integer.MIN_VALUE, Integer.MIN_VALUE + 1, -1001, -1, 0, 1, 2, 3, 4, 5, 6, 7,
        8, 9, 12, 13, 23, 24, 25, 31, 32, 80, 100, 126, 127, 1000, 1001, 5000, 5001, Integer.MAX_VALUE - 1,
        Integer.MAX_VALUE};

    private interface Call {
        int on(BumpsChart chart);
    }

    private ChangesEdgesTests() { }

    static void run() {
        Check.sentence("The changes are the calls of begin, setSpeed, set, bump, rerow, finish, row and enter",
            ChangesEdgesTests::eachChange);
        Check.sentence("that return no error", ChangesEdgesTests::noErrorIsAChange);
        Check.sentence("A history of at most 4 states is kept", ChangesEdgesTests::atMostFour);
        Check.sentence("each change records everything before it but the text", ChangesEdgesTests::everything);
        Check.sentence("if there are 5 states then, the oldest one is dropped", ChangesEdgesTests::oldestIsDropped);
        Check.sentence("INVALID_ARGUMENT is returned rather than NOT_POSSIBLE", ChangesEdgesTests::notPossible);
        Check.sentence("INVALID_ARGUMENT is returned rather than LIMIT_REACHED", ChangesEdgesTests::limitReached);
        Check.sentence("INVALID_ARGUMENT is returned rather than NOT_FOUND", ChangesEdgesTests::notFound);
        Check.sentence("A call that returns an error changes nothing", ChangesEdgesTests::errorsChangeNothing);
        Check.sentence("If there is no crew, bump or day with a certain number, this is INVALID_ARGUMENT",
            ChangesEdgesTests::noSuchNumber);
        Check.sentence("LANGUAGE 7: No call may ever throw by itself", ChangesEdgesTests::anyArguments);
    }

    private static Call[] changes() {
        return new Call[] {
            x -> x.begin(9, 8, 2), x -> x.setSpeed(0, 400), x -> x.set(0, 1500), x -> x.set(1, 300),
            x -> x.bump(2, 1), x -> x.rerow(0), x -> x.finish(), x -> x.enter()};
    }

    /** The crews 0 to 8 race; the bump 8-7 is made, the text is "6-5;", the history holds three states. */
    private static BumpsChart some() {
        BumpsChart x = Charts.race(9);
        x.bump(8, 7);
        Check.write(x, "6-5;");
        return x;
    }

    private static void eachChange() {
        for (int i = 0; i < changes().length; i++) {
            BumpsChart x = some();
            Check.holds("change " + i, changes()[i].on(x) >= 0);
            Check.due("change " + i + " is recorded", x.count(10), 4);
            Check.due("change " + i + " can be taken back", x.undo(), 3);
            Check.due("change " + i + " is taken back", x.bumped(0, 0), 8);
            Check.due("change " + i + " is taken back", x.count(6), 1);
        }
        BumpsChart x = some();
        x.rerow(0);
        x.undo();
        Check.due("undo is none", x.count(10), 3);
        x.undo();
        Check.due("row", x.row(), 0);
        Check.due("row is one", x.count(10), 3);
    }

    private static void noErrorIsAChange() {
        BumpsChart x = some();
        String before = Check.told(x);
        BumpsChart y = some();
        int[] answers = {y.begin(1, 8, 2), y.setSpeed(9, 1), y.set(0, 99), y.bump(8, 7), y.rerow(1), y.row()};
        for (int answer : answers) {
            Check.holds("refused", answer < 0);
        }
        Check.write(y, "7-6;");
        Check.due("refused", y.enter(), Check.IMPOSSIBLE);
        Check.due("none is recorded", y.count(10), 3);
        Check.write(y, "6-5;");
        Check.same("all is as before", Check.told(y), before);
        BumpsChart over = Charts.over();
        Check.due("refused", over.finish(), Check.IMPOSSIBLE);
        Check.due("none is recorded", over.count(10), 2);
    }

    private static void atMostFour() {
        for (int i = 0; i < changes().length; i++) {
            BumpsChart x = some();
            x.setSpeed(1, 1);
            Check.due("four", x.count(10), 4);
            Check.holds("change " + i, changes()[i].on(x) >= 0);
            Check.due("still four", x.count(10), 4);
            for (int left = 3; left >= 0; left--) {
                Check.due("left", x.undo(), left);
            }
            Check.due("no fifth", x.undo(), Check.IMPOSSIBLE);
        }
    }

    /** One day is over, all that can be set is set, the race has a bump, and the text another one. */
    private static BumpsChart dayOver() {
        BumpsChart x = Charts.begun(6, 3, 3);
        Charts.raceWith(x, 4, 3);
        Charts.raceWith(x, 4, 2);
        x.setSpeed(5, 777);
        x.set(0, 333);
        x.set(1, 44);
        x.bump(3, 2);
        Check.write(x, "5-2;");
        return x;
    }

    private static void everything() {
        String before = Check.told(dayOver());
        Call[] all = {
            y -> y.begin(24, 8, 6), y -> y.setSpeed(5, 1), y -> y.set(0, 5000), y -> y.set(1, 1000),
            y -> y.rerow(0), y -> y.finish()};
        for (Call change : all) {
            BumpsChart x = dayOver();
            Check.holds("a change", change.on(x) >= 0);
            Check.due("back", x.undo(), 3);
            x.set(0, x.count(8));
            Check.same("all but the text", Check.told(x), before);
        }
        BumpsChart x = dayOver();
        Check.write(x, "x");
        x.setSpeed(0, 1);
        Check.write(x, "5-2;");
        x.undo();
        Check.due("the text is as it was after it", x.count(11), 4);
    }

    private static void oldestIsDropped() {
        BumpsChart x = new BumpsChart();
        for (int change = 1; change <= 5; change++) {
            x.setSpeed(0, change);
        }
        for (int speed = 4; speed >= 1; speed--) {
            x.undo();
            Check.due("the state with the speed", x.crew(0, 0), speed);
        }
        Check.due("that with 400 is dropped", x.undo(), Check.IMPOSSIBLE);
        Check.due("that with 400 is dropped", x.crew(0, 0), 1);
        BumpsChart four = new BumpsChart();
        for (int change = 1; change <= 4; change++) {
            four.setSpeed(0, change);
        }
        four.undo();
        four.setSpeed(0, 9);
        for (int left = 3; left >= 0; left--) {
            Check.due("left", four.undo(), left);
        }
        Check.due("of four none is dropped", four.crew(0, 0), 400);
    }

    private static void notPossible() {
        BumpsChart x = Charts.over();
        Check.due("bump", x.bump(3, 0), Check.INVALID);
        Check.due("bump", x.bump(0, 3), Check.INVALID);
        Check.due("bump", x.bump(1, 0), Check.IMPOSSIBLE);
        BumpsChart y = Charts.race(9);
        Check.due("can not, and no crew", y.bump(9, 0), Check.INVALID);
        Check.due("can not", y.bump(8, 0), Check.IMPOSSIBLE);
    }

    private static void limitReached() {
        BumpsChart x = new BumpsChart();
        for (int i = 0; i < 80; i++) {
            x.type('a');
        }
        Check.due("below", x.type(31), Check.INVALID);
        Check.due("above", x.type(127), Check.INVALID);
        Check.due("least", x.type(32), Check.LIMIT);
        Check.due("greatest", x.type(126), Check.LIMIT);
    }

    private static void notFound() {
        BumpsChart x = Charts.over();
        Check.due("count", x.count(13), Check.INVALID);
        Check.due("crew", x.crew(3, 3), Check.INVALID);
        Check.due("crew", x.crew(0, 10), Check.INVALID);
        Check.due("starter", x.starter(-1), Check.INVALID);
        Check.due("foretold, index", x.foretold(-1, 0), Check.INVALID);
        Check.due("foretold, what", x.foretold(0, 3), Check.INVALID);
        Check.due("distanceBits, index", x.distanceBits(0, 0), Check.INVALID);
        Check.due("distanceBits, time", x.distanceBits(1, 1001), Check.INVALID);
        Check.due("speedFor", x.speedFor(3), Check.INVALID);
        Check.due("fault", x.fault(2), Check.INVALID);
    }

    private static Call[] errors() {
        return new Call[] {
            x -> x.begin(1, 8, 2), x -> x.begin(25, 8, 2), x -> x.begin(9, 2, 2), x -> x.begin(9, 9, 2),
            x -> x.begin(9, 8, 0), x -> x.begin(9, 8, 7), x -> x.setSpeed(-1, 1), x -> x.setSpeed(9, 1),
            x -> x.setSpeed(0, 0), x -> x.setSpeed(0, 1001), x -> x.set(-1, 100), x -> x.set(2, 100),
            x -> x.set(0, 99), x -> x.set(0, 5001), x -> x.set(1, 0), x -> x.set(1, 1001), x -> x.count(-1),
            x -> x.count(13), x -> x.crew(9, 0), x -> x.crew(0, 10), x -> x.at(-1), x -> x.at(9), x -> x.starter(-1),
            x -> x.starter(9), x -> x.bump(8, 7), x -> x.bump(6, 4), x -> x.bump(0, 1), x -> x.bump(9, 0),
            x -> x.bump(0, 9), x -> x.why(9, 0), x -> x.why(0, 9), x -> x.bumped(1, 0), x -> x.bumped(0, 3),
            x -> x.rerow(-1), x -> x.rerow(1), x -> x.foretold(-1, 0), x -> x.foretold(0, 3), x -> x.foretold(0, 0),
            x -> x.row(), x -> x.distanceBits(0, 0), x -> x.distanceBits(1, 1001), x -> x.distanceBits(9, 0),
            x -> x.speedFor(9), x -> x.speedFor(0), x -> x.place(9, 0), x -> x.place(0, 1), x -> x.again(9, 0),
            x -> x.again(0, 1), x -> x.bestRise(), x -> x.type(31), x -> x.type(127), x -> x.fault(2),
            x -> x.fault(0)};
    }

    private static void errorsChangeNothing() {
        BumpsChart full = some();
        full.setSpeed(0, 444);
        String before = Check.told(full);
        for (int i = 0; i < errors().length; i++) {
            BumpsChart x = some();
            x.setSpeed(0, 444);
            int answer = errors()[i].on(x);
            Check.holds("error " + i, answer == Check.INVALID || answer == Check.IMPOSSIBLE || answer == Check.NONE);
            Check.same("error " + i + " changes nothing", Check.told(x), before);
            Check.due("the history neither", x.undo(), 3);
            Check.due("the history neither", x.crew(0, 0), 400);
            Check.due("the history neither", x.undo(), 2);
            Check.due("the history neither", x.count(6), 0);
            Check.due("the text neither", x.enter(), 1);
        }
    }

    private static void noSuchNumber() {
        for (int none : new int[] {-1, 9, Integer.MIN_VALUE, Integer.MAX_VALUE}) {
            int[] answers = {some().setSpeed(none, 1), some().crew(none, 0), some().bump(none, 0),
                some().bump(0, none), some().why(none, 0), some().why(0, none), some().speedFor(none),
                some().place(none, 0), some().again(none, 0), some().bumped(none, 0), some().rerow(none),
                some().place(0, none), some().again(0, none)};
            for (int i = 0; i < answers.length; i++) {
                Check.due("number " + none + ", call " + i, answers[i], Check.INVALID);
            }
        }
        Check.due("the first crew, bump and day", some().setSpeed(0, 1), 400);
        Check.due("the first bump", some().bumped(0, 0), 8);
        Check.due("the first day", some().place(8, 0), 8);
        Check.due("no second bump", some().bumped(1, 0), Check.INVALID);
        Check.due("no second day", some().place(8, 1), Check.INVALID);
    }

    /** Every call with numbers far off, in states that are the utmost ones; what is answered may be anything. */
    private static void anyArguments() {
        for (int state = 0; state < 5; state++) {
            for (int first : NUMBERS) {
                BumpsChart x = utmost(state);
                for (int second : NUMBERS) {
                    askAll(x, first, second);
                }
                Check.holds("it still tells of itself", x.count(0) >= 2);
            }
            for (int first : NUMBERS) {
                changeAll(state, first);
            }
        }
    }

    private static BumpsChart utmost(int state) {
        switch (state) {
            case 0: return new BumpsChart();
            case 1: return Charts.over();
            case 2: return some();
            case 3: return Charts.begun(24, 3, 6);
            default: return Charts.begun(2, 8, 1);
        }
    }

    private static void askAll(BumpsChart x, int first, int second) {
        x.count(first);
        x.at(first);
        x.starter(first);
        x.crew(first, second);
        x.why(first, second);
        x.bumped(first, second);
        x.foretold(first, second);
        x.distanceBits(first, second);
        x.place(first, second);
        x.again(first, second);
        x.fault(first);
        x.speedFor(second);
    }

    private static void changeAll(int state, int first) {
        for (int second : NUMBERS) {
            BumpsChart x = utmost(state);
            x.begin(first, second, first);
            x.begin(second, first, 1);
            x.setSpeed(first, second);
            x.set(first, second);
            x.bump(first, second);
            x.rerow(first);
            x.type(first);
            x.enter();
            x.row();
            x.finish();
            x.undo();
            Check.holds("it still tells of itself", x.count(0) >= 2 && x.count(10) <= 4);
        }
    }
}
