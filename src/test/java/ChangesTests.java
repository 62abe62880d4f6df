/** What counts as a change, what the history records, and that a refused call changes nothing. */
final class ChangesTests {
    private ChangesTests() { }

    private interface Call {
        int on(BumpsChart chart);
    }

    static void run() {
        changesAreRecorded();
        readsAreNoChanges();
        refusedCallsChangeNothing();
        fourStates();
    }

    /** One day is over; the race has a bump, the text a fault, the history two states. */
    private static BumpsChart some() {
        BumpsChart x = new BumpsChart();
        x.begin(5, 3, 2);
        x.setSpeed(4, 500);
        x.row();
        x.row();
        for (int i = 0; i < 4; i++) {
            x.set(0, 1500);
        }
        for (int i = 0; i < 4; i++) {
            x.undo();
        }
        x.setSpeed(2, 433);
        x.bump(x.starter(1), x.starter(0));
        Check.write(x, "4-3");
        Check.due("a day is over", x.count(4), 1);
        Check.due("a bump is made", x.count(6), 1);
        Check.due("two states", x.count(10), 2);
        return x;
    }

    private static void changesAreRecorded() {
        Call[] changes = {
            x -> x.begin(6, 3, 1), x -> x.setSpeed(0, 400), x -> x.set(0, 1500), x -> x.set(1, 300),
            x -> x.rerow(0), x -> x.finish(),
            x -> { x.clearText(); return x.enter(); }};
        for (int i = 0; i < changes.length; i++) {
            BumpsChart x = some();
            String before = Check.told(some());
            int states = x.count(10);
            Check.holds("change " + i + " is possible", changes[i].on(x) >= 0);
            Check.due("change " + i + " is recorded", x.count(10), states + 1);
            Check.due("change " + i + " is taken back", x.undo(), states);
            Check.write(x, "4-3");
            Check.same("change " + i + " is taken back whole", Check.told(x), before);
        }
        BumpsChart x = new BumpsChart();
        x.bump(9, 8);
        Check.due("bump is recorded", x.count(10), 1);
        x.undo();
        x.row();
        Check.due("row is recorded", x.count(10), 1);
    }

    private static void readsAreNoChanges() {
        BumpsChart x = some();
        String before = Check.told(x);
        Check.same("reads change nothing", Check.told(x), before);
        BumpsChart y = some();
        y.type('a');
        y.clearText();
        Check.due("texts are no changes", y.count(10), x.count(10));
    }

    private static void refusedCallsChangeNothing() {
        String before = Check.told(some());
        Call[] refused = {
            x -> x.begin(1, 3, 1), x -> x.begin(25, 3, 1), x -> x.begin(5, 2, 1), x -> x.begin(5, 9, 1),
            x -> x.begin(5, 3, 0), x -> x.begin(5, 3, 7), x -> x.setSpeed(5, 1), x -> x.setSpeed(0, 1001),
            x -> x.set(0, 99), x -> x.set(1, 0), x -> x.set(2, 100), x -> x.count(13), x -> x.crew(0, 10),
            x -> x.at(5), x -> x.starter(-1), x -> x.starter(9), x -> x.bump(0, 0), x -> x.bump(5, 0),
            x -> x.bump(x.starter(1), x.starter(0)), x -> x.why(5, 0), x -> x.bumped(1, 0), x -> x.rerow(1),
            x -> x.foretold(0, 3), x -> x.foretold(9, 0), x -> x.row(), x -> x.distanceBits(0, 0),
            x -> x.distanceBits(9, 0), x -> x.speedFor(5), x -> x.speedFor(0), x -> x.place(0, 2), x -> x.again(0, 2),
            x -> x.type(31), x -> x.fault(2), x -> x.enter()};
        for (int i = 0; i < refused.length; i++) {
            BumpsChart x = some();
            Check.holds("refused call " + i + " is refused", refused[i].on(x) <= -1001);
            Check.same("refused call " + i + " changes nothing", Check.told(x), before);
        }
    }

    private static void fourStates() {
        BumpsChart x = new BumpsChart();
        for (int speed = 1; speed <= 9; speed++) {
            x.setSpeed(0, speed);
            Check.due("states", x.count(10), Math.min(speed, 4));
        }
        for (int speed = 8; speed >= 5; speed--) {
            Check.due("states left", x.undo(), speed - 5);
            Check.due("the latest state first", x.crew(0, 0), speed);
        }
        Check.due("no more", x.undo(), Check.IMPOSSIBLE);
        Check.due("no more", x.crew(0, 0), 5);
        x.setSpeed(0, 77);
        x.setSpeed(1, 78);
        Check.due("recorded anew", x.undo(), 1);
        Check.due("recorded anew", x.crew(0, 0), 77);
        Check.due("recorded anew", x.undo(), 0);
        Check.due("recorded anew", x.crew(0, 0), 5);
    }
}
