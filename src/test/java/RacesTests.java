/** Promises 8 to 14. */
final class RacesTests {
    private RacesTests() { }

    static void run() {
        starter();
        oneCrewAlone();
        bump();
        bumpOverAllOthers();
        why();
        bumped();
        rerow();
        rerowInRow();
        finish();
        sandwich();
        undo();
        undoOfBegin();
        undoNeverTakesTheText();
    }

    private static void starter() {
        BumpsChart x = new BumpsChart();
        x.begin(10, 4, 1);
        Check.starters("8: lowest", x, 8, 9);
        x.finish();
        Check.starters("8: middle", x, 4, 5, 6, 7, 8);
        x.finish();
        Check.starters("8: first", x, 0, 1, 2, 3, 4);
        Check.due("8: negative", x.starter(-1), Check.INVALID);
        x.finish();
        Check.due("8: no race", x.starter(0), Check.NONE);
        Check.due("8: no race, negative", x.starter(-1), Check.INVALID);
        Check.due("8: no race, least", x.starter(Integer.MIN_VALUE), Check.INVALID);
        Check.due("8: no race, greatest", x.starter(Integer.MAX_VALUE), Check.NONE);
    }

    private static void oneCrewAlone() {
        BumpsChart x = new BumpsChart();
        x.begin(4, 3, 1);
        Check.starters("8: alone", x, 3);
        Check.due("8: alone, none to bump", x.bump(3, 2), Check.IMPOSSIBLE);
        x.finish();
        Check.due("8: sandwich crew", x.bump(3, 2), 0);
        x.finish();
        Check.due("8: over", x.count(4), 1);
    }

    private static void bump() {
        BumpsChart x = new BumpsChart();
        Check.due("9: not the next one", x.bump(10, 8), Check.IMPOSSIBLE);
        Check.due("9: the one behind", x.bump(9, 10), Check.IMPOSSIBLE);
        Check.due("9: itself", x.bump(9, 9), Check.IMPOSSIBLE);
        Check.due("9: no starter", x.bump(8, 7), Check.IMPOSSIBLE);
        Check.due("9: first", x.bump(10, 9), 0);
        Check.due("9: out", x.bump(11, 10), Check.IMPOSSIBLE);
        Check.due("9: out", x.bump(9, 8), Check.IMPOSSIBLE);
        Check.due("9: over them", x.bump(11, 8), 1);
        int[][] wrong = {{-1, 0}, {12, 0}, {0, -1}, {0, 12}, {Integer.MAX_VALUE, 0}, {0, Integer.MIN_VALUE}};
        for (int[] w : wrong) {
            Check.due("9: wrong", x.bump(w[0], w[1]), Check.INVALID);
        }
        x.begin(2, 3, 1);
        x.finish();
        Check.due("9: no race", x.bump(1, 0), Check.IMPOSSIBLE);
        Check.due("9: no race, no crew", x.bump(2, 0), Check.INVALID);
    }

    private static void bumpOverAllOthers() {
        BumpsChart x = new BumpsChart();
        x.begin(9, 8, 1);
        x.finish();
        Check.due("9: innermost", x.bump(5, 4), 0);
        Check.due("9: next", x.bump(6, 3), 1);
        Check.due("9: next", x.bump(7, 2), 2);
        Check.due("9: outermost", x.bump(8, 1), 3);
        Check.due("9: none ahead is left", x.bump(0, 1), Check.IMPOSSIBLE);
        Check.due("9: finished", x.finish(), 4);
        Check.crews("9: places", x, 0, 8, 7, 6, 5, 4, 3, 2, 1);
    }

    private static void why() {
        BumpsChart x = new BumpsChart();
        Check.due("10: it can", x.why(9, 8), 0);
        Check.due("10: a is no starter", x.why(0, 8), 2);
        Check.due("10: b is no starter", x.why(8, 0), 2);
        Check.due("10: not behind", x.why(8, 9), 4);
        Check.due("10: itself", x.why(8, 8), 4);
        Check.due("10: one between", x.why(10, 8), 5);
        x.bump(10, 9);
        Check.due("10: a is out", x.why(10, 8), 3);
        Check.due("10: b is out", x.why(11, 9), 3);
        Check.due("10: out rather than not behind", x.why(8, 9), 3);
        Check.due("10: out rather than itself", x.why(9, 9), 3);
        Check.due("10: no starter rather than out", x.why(10, 0), 2);
        Check.due("10: all between are out", x.why(11, 8), 0);
        Check.due("10: nothing was made", x.count(6), 1);
        Check.due("10: no crew", x.why(-1, 8), Check.INVALID);
        Check.due("10: no crew", x.why(8, 12), Check.INVALID);
        Check.due("10: no crew", x.why(Integer.MAX_VALUE, Integer.MIN_VALUE), Check.INVALID);
        x.begin(2, 3, 1);
        x.finish();
        Check.due("10: no race", x.why(1, 0), 2);
        Check.due("10: no race, no crew", x.why(1, 2), Check.INVALID);
    }

    private static void bumped() {
        BumpsChart x = new BumpsChart();
        Check.due("11: none yet", x.bumped(0, 0), Check.INVALID);
        x.bump(10, 9);
        x.bump(11, 8);
        Check.due("11: a", x.bumped(0, 0), 10);
        Check.due("11: b", x.bumped(0, 1), 9);
        Check.due("11: between", x.bumped(0, 2), 0);
        Check.due("11: a", x.bumped(1, 0), 11);
        Check.due("11: b", x.bumped(1, 1), 8);
        Check.due("11: between", x.bumped(1, 2), 2);
        int[][] wrong = {{-1, 0}, {2, 0}, {0, -1}, {0, 3}, {Integer.MIN_VALUE, 0}, {Integer.MAX_VALUE, 1}};
        for (int[] w : wrong) {
            Check.due("11: wrong", x.bumped(w[0], w[1]), Check.INVALID);
        }
        x.finish();
        Check.due("11: of another race", x.bumped(0, 0), Check.INVALID);
        x.begin(2, 3, 1);
        x.finish();
        Check.due("11: no race", x.bumped(0, 0), Check.INVALID);
    }

    private static void rerow() {
        BumpsChart x = new BumpsChart();
        x.begin(8, 8, 1);
        x.bump(1, 0);
        x.bump(5, 4);
        x.bump(6, 3);
        x.bump(7, 2);
        Check.due("12: with those that need it", x.rerow(1), 3);
        Check.due("12: the other is left", x.count(6), 1);
        Check.due("12: which", x.bumped(0, 0), 1);
        Check.due("12: not out any more", x.crew(5, 4), 0);
        Check.due("12: not out any more", x.crew(2, 4), 0);
        x.bump(5, 4);
        x.bump(6, 3);
        Check.due("12: one that none needs", x.rerow(0), 1);
        Check.due("12: numbered anew", x.bumped(0, 0), 5);
        Check.due("12: numbered anew", x.bumped(1, 0), 6);
        Check.due("12: the last one", x.rerow(1), 1);
        Check.due("12: none such", x.rerow(1), Check.INVALID);
        Check.due("12: none such", x.rerow(-1), Check.INVALID);
        Check.due("12: none such", x.rerow(Integer.MAX_VALUE), Check.INVALID);
        Check.due("12: first", x.rerow(0), 1);
        Check.due("12: row after it", x.row(), 0);
        Check.due("12: no race", x.rerow(0), Check.INVALID);
    }

    private static void rerowInRow() {
        BumpsChart x = new BumpsChart();
        x.begin(8, 8, 1);
        x.bump(2, 1);
        x.bump(5, 4);
        x.bump(6, 3);
        x.bump(7, 0);
        Check.due("12: needs of both sides", x.rerow(0), 2);
        Check.due("12: left", x.count(6), 2);
        Check.due("12: left in order", x.bumped(0, 0), 5);
        Check.due("12: left in order", x.bumped(1, 0), 6);
        x.bump(2, 1);
        x.bump(7, 0);
        Check.due("12: needs over several", x.rerow(0), 3);
        Check.due("12: left", x.bumped(0, 0), 2);
        Check.due("12: only one", x.count(6), 1);
    }

    private static void finish() {
        BumpsChart x = new BumpsChart();
        x.begin(6, 3, 2);
        x.bump(5, 4);
        Check.due("13: one", x.finish(), 1);
        Check.crews("13: exchanged", x, 0, 1, 2, 3, 5, 4);
        Check.due("13: the next division", x.count(5), 0);
        Check.due("13: the day goes on", x.count(4), 0);
        Check.due("13: none", x.finish(), 0);
        Check.due("13: the day is over", x.count(4), 1);
        Check.due("13: the lowest again", x.count(5), 1);
        x.bump(5, 3);
        Check.due("13: one", x.finish(), 1);
        x.bump(5, 2);
        x.bump(1, 0);
        Check.due("13: two", x.finish(), 2);
        Check.crews("13: at last", x, 1, 0, 5, 2, 3, 4);
        Check.due("13: all days over", x.count(4), 2);
        Check.due("13: no race", x.finish(), Check.IMPOSSIBLE);
    }

    private static void sandwich() {
        BumpsChart x = new BumpsChart();
        x.begin(9, 3, 1);
        x.bump(7, 6);
        x.finish();
        Check.starters("13: sandwich crew is the new head", x, 3, 4, 5, 7);
        x.bump(7, 5);
        x.bump(4, 3);
        x.finish();
        Check.starters("13: of the middle one", x, 0, 1, 2, 4);
        x.bump(4, 2);
        x.finish();
        Check.crews("13: up by two divisions' heads", x, 0, 1, 4, 2, 3, 7, 5, 6, 8);
        Check.due("13: crew 7 rose once a day", x.crew(7, 5), 1);
        Check.due("13: with two bumps", x.crew(7, 8), 2);
    }

    private static void undo() {
        BumpsChart x = new BumpsChart();
        Check.due("14: empty", x.undo(), Check.IMPOSSIBLE);
        x.begin(6, 3, 2);
        String begun = Check.told(x);
        x.setSpeed(5, 500);
        x.bump(4, 3);
        x.finish();
        x.set(1, 500);
        Check.due("14: at most 4", x.count(10), 4);
        Check.due("14: set taken back", x.undo(), 3);
        Check.due("14: the length", x.count(9), 300);
        Check.due("14: finish taken back", x.undo(), 2);
        Check.due("14: the bump is there", x.count(6), 1);
        Check.due("14: the division", x.count(5), 1);
        Check.due("14: bump taken back", x.undo(), 1);
        Check.due("14: no bump", x.count(6), 0);
        Check.due("14: speed taken back", x.undo(), 0);
        Check.due("14: speed", x.crew(5, 0), 400);
        Check.same("14: as before", Check.told(x).substring(28), begun.substring(28));
        Check.due("14: the oldest was dropped", x.undo(), Check.IMPOSSIBLE);
        x.begin(24, 8, 6);
        Check.due("14: begin taken back", x.undo(), 0);
        Check.same("14: as before", Check.told(x).substring(28), begun.substring(28));
    }

    private static void undoOfBegin() {
        BumpsChart x = new BumpsChart();
        x.begin(5, 5, 3);
        x.bump(1, 0);
        x.bump(4, 3);
        x.finish();
        x.bump(2, 0);
        x.finish();
        x.setSpeed(3, 666);
        x.bump(4, 2);
        x.set(0, 777);
        x.set(1, 55);
        String before = Check.told(x);
        x.begin(5, 3, 2);
        x.set(0, 1234);
        x.bump(4, 3);
        x.finish();
        x.undo();
        x.undo();
        Check.due("14: the gap as set", x.count(8), 1234);
        Check.due("14: the gap taken back", x.undo(), 1);
        Check.due("14: the gap as before", x.count(8), 777);
        Check.due("14: begin taken back", x.undo(), 0);
        Check.same("14: all as before begin", Check.told(x).substring(28), before.substring(28));
    }

    private static void undoNeverTakesTheText() {
        BumpsChart x = new BumpsChart();
        x.setSpeed(0, 5);
        Check.write(x, "9-8;");
        x.enter();
        Check.due("14: enter taken back", x.undo(), 1);
        Check.due("14: no bump", x.count(6), 0);
        Check.due("14: the text stays", x.count(11), 4);
        x.clearText();
        Check.due("14: speed taken back", x.undo(), 0);
        Check.due("14: the text stays empty", x.count(11), 0);
    }
}
