/** Promises 22 to 25. */
final class TextsTests {
    private TextsTests() { }

    static void run() {
        type();
        clearText();
        faultOfForm();
        faultOfBump();
        faultWithoutRace();
        enter();
        enterAfterBumps();
    }

    private static void type() {
        BumpsChart x = new BumpsChart();
        Check.due("22: least", x.type(32), 1);
        Check.due("22: greatest", x.type(126), 2);
        int[] wrong = {31, 127, -1, 0, Integer.MAX_VALUE, Integer.MIN_VALUE};
        for (int w : wrong) {
            Check.due("22: wrong", x.type(w), Check.INVALID);
        }
        for (int i = 3; i <= 80; i++) {
            Check.due("22: one more", x.type('0'), i);
        }
        Check.due("22: full", x.type('0'), Check.LIMIT);
        Check.due("22: full, wrong", x.type(31), Check.INVALID);
        Check.due("22: length", x.count(11), 80);
        Check.due("22: no change", x.count(10), 0);
    }

    private static void clearText() {
        BumpsChart x = new BumpsChart();
        Check.due("23: empty", x.clearText(), 0);
        Check.write(x, "ab;");
        Check.due("23: three", x.clearText(), 3);
        Check.due("23: now empty", x.count(11), 0);
        Check.due("23: no fault", x.fault(0), Check.NONE);
        Check.due("23: no change", x.count(10), 0);
    }

    private static void faultIs(BumpsChart x, String text, int position, int reason) {
        Check.write(x, text);
        Check.due("24: position in " + text, x.fault(0), position);
        Check.due("24: reason of " + text, x.fault(1), reason);
        if (reason != Check.NONE) {
            Check.due("25: enter " + text, x.enter(), Check.IMPOSSIBLE);
        }
    }

    private static void faultOfForm() {
        BumpsChart x = new BumpsChart();
        String[] wrong = {";", "-", "9", "9-", "9-8", "9-;", "-8;", "9;", "9-8 ;", " 9-8;", "009-8;", "9-008;",
            "9--8;", "9+8;", "a-8;", "9-b;", "9-8:", "/-8;", ":-8;", "9-/;", "9-:;", "123456", "9-8,", "+9-8;"};
        for (String w : wrong) {
            faultIs(x, w, 0, 1);
        }
        faultIs(x, "9-8;;", 4, 1);
        faultIs(x, "9-8; 11-10;", 4, 1);
        faultIs(x, "09-08;11-10", 6, 1);
        faultIs(x, "9-8;9", 4, 1);
        faultIs(x, "11-10;9-8;1", 10, 1);
        StringBuilder full = new StringBuilder("11-10;");
        while (full.length() < 80) {
            full.append('1');
        }
        faultIs(x, full.toString(), 6, 1);
        Check.write(x, "09-08;11-10;");
        Check.due("24: none", x.fault(0), Check.NONE);
        Check.due("24: none", x.fault(1), Check.NONE);
        Check.due("24: what", x.fault(2), Check.INVALID);
        Check.due("24: what", x.fault(-1), Check.INVALID);
    }

    private static void faultOfBump() {
        BumpsChart x = new BumpsChart();
        faultIs(x, "99-8;", 0, 2);
        faultIs(x, "9-12;", 0, 2);
        faultIs(x, "8-7;", 0, 2);
        faultIs(x, "9-8;9-3;", 4, 2);
        faultIs(x, "9-8;9-8;", 4, 3);
        faultIs(x, "9-8;8-9;", 4, 3);
        faultIs(x, "9-8;9-9;", 4, 3);
        faultIs(x, "9-8;10-11;", 4, 4);
        faultIs(x, "9-9;", 0, 4);
        faultIs(x, "10-8;9-8;", 0, 5);
        faultIs(x, "11-8;", 0, 5);
        faultIs(x, "8-11;7-6;", 0, 4);
        faultIs(x, "10-9;11-8;11-8;", 10, 3);
        faultIs(x, "10-9;11-8;", Check.NONE, Check.NONE);
        x.bump(9, 8);
        faultIs(x, "10-9;11-8;", 0, 3);
        faultIs(x, "11-10;10-8;", 6, 3);
        faultIs(x, "11-10;", Check.NONE, Check.NONE);
        Check.due("24: nothing was made", x.count(6), 1);
    }

    private static void faultWithoutRace() {
        BumpsChart x = new BumpsChart();
        x.begin(2, 3, 1);
        Check.write(x, "1-0;");
        Check.due("24: with a race", x.fault(1), Check.NONE);
        x.finish();
        faultIs(x, "1-0;", 0, 2);
        faultIs(x, "1-0", 0, 1);
        x.clearText();
        Check.due("24: empty", x.fault(0), Check.NONE);
        Check.due("25: empty, no race", x.enter(), 0);
        Check.due("25: a change all the same", x.count(10), 3);
    }

    private static void enter() {
        BumpsChart x = new BumpsChart();
        Check.due("25: empty", x.enter(), 0);
        Check.due("25: a change all the same", x.count(10), 1);
        Check.write(x, "10-9;11-8;");
        Check.due("25: two", x.enter(), 2);
        Check.due("25: the text stays", x.count(11), 10);
        Check.due("25: made", x.count(6), 2);
        Check.due("25: in their order", x.bumped(0, 0), 10);
        Check.due("25: in their order", x.bumped(1, 1), 8);
        Check.due("25: again", x.enter(), Check.IMPOSSIBLE);
        Check.due("25: one change", x.undo(), 1);
        Check.due("25: both taken back", x.count(6), 0);
        Check.write(x, "10-9;11-10;");
        Check.due("25: a fault", x.enter(), Check.IMPOSSIBLE);
        Check.due("25: not even the first", x.count(6), 0);
    }

    private static void enterAfterBumps() {
        BumpsChart x = new BumpsChart();
        x.begin(9, 8, 1);
        x.finish();
        x.bump(2, 1);
        Check.write(x, "05-4;6-3;8-7;");
        Check.due("25: three", x.enter(), 3);
        Check.due("25: after the one made", x.count(6), 4);
        Check.due("25: its number", x.bumped(3, 0), 8);
        Check.due("25: finished", x.finish(), 4);
        Check.crews("25: exchanged", x, 0, 2, 1, 6, 5, 4, 3, 8, 7);
    }
}
