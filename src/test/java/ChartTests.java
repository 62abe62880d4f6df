/** Promises 19 to 21. */
final class ChartTests {
    private ChartTests() { }

    static void run() {
        place();
        again();
        bestRise();
        bestRiseOfSeveral();
    }

    private static BumpsChart twoDays() {
        BumpsChart x = new BumpsChart();
        x.begin(6, 3, 3);
        x.bump(4, 3);
        x.finish();
        x.bump(4, 2);
        x.finish();
        x.finish();
        x.bump(4, 1);
        x.finish();
        x.bump(5, 3);
        x.finish();
        return x;
    }

    private static void place() {
        BumpsChart x = twoDays();
        int[][] due = {{0, 0, 0}, {1, 1, 2}, {2, 3, 3}, {3, 4, 4}, {4, 2, 1}, {5, 5, 5}};
        for (int crew = 0; crew < 6; crew++) {
            for (int day = 0; day <= 2; day++) {
                Check.due("19: place(" + crew + ", " + day + ")", x.place(crew, day), due[crew][day]);
                Check.due("20: again(" + crew + ", " + day + ")", x.again(crew, day), due[crew][day]);
            }
        }
        int[][] wrong = {{-1, 0}, {6, 0}, {0, -1}, {0, 3}, {Integer.MAX_VALUE, 0}, {0, Integer.MIN_VALUE}};
        for (int[] w : wrong) {
            Check.due("19: wrong", x.place(w[0], w[1]), Check.INVALID);
            Check.due("20: wrong", x.again(w[0], w[1]), Check.INVALID);
        }
        x.bump(2, 1);
        x.finish();
        Check.due("19: the last day", x.place(2, 3), 2);
        Check.due("19: after the last day", x.place(2, 4), Check.INVALID);
        Check.due("20: after the last day", x.again(2, 4), Check.INVALID);
        x.undo();
        Check.due("19: the day is taken back", x.place(2, 3), Check.INVALID);
    }

    private static void again() {
        BumpsChart x = twoDays();
        Check.due("20: a race of a day that is not over", x.crew(5, 1), 4);
        Check.due("20: a race of a day that is not over", x.again(5, 2), 5);
        x.undo();
        x.undo();
        Check.due("20: without the bump taken back", x.crew(5, 8), 0);
        x.bump(3, 2);
        x.finish();
        x.finish();
        Check.due("20: another bump", x.again(3, 3), 3);
        Check.due("20: another bump", x.again(2, 3), 4);
        Check.due("19: another bump", x.place(3, 3), 3);
        againWithTheMostBumps();
        againAfterUndoOfBegin();
    }

    private static void againAfterUndoOfBegin() {
        BumpsChart x = new BumpsChart();
        x.begin(4, 4, 2);
        x.bump(1, 0);
        x.finish();
        x.bump(0, 1);
        x.finish();
        x.begin(4, 4, 2);
        x.finish();
        Check.write(x, "2-1;3-0;");
        x.enter();
        x.finish();
        Check.due("20: anew", x.again(0, 2), 3);
        Check.due("19: anew", x.place(0, 2), 3);
        for (int left = 3; left >= 0; left--) {
            Check.due("20: undo", x.undo(), left);
        }
        int[][] due = {{0, 1, 0}, {1, 0, 1}, {2, 2, 2}};
        for (int crew = 0; crew < 3; crew++) {
            for (int day = 0; day <= 2; day++) {
                Check.due("19: as before begin", x.place(crew, day), due[crew][day]);
                Check.due("20: as before begin", x.again(crew, day), due[crew][day]);
            }
        }
        Check.due("20: made by the crew 1", x.crew(1, 8), 1);
        Check.due("20: made on the crew 1", x.crew(1, 9), 1);
    }

    private static void againWithTheMostBumps() {
        BumpsChart y = new BumpsChart();
        y.begin(24, 3, 6);
        for (int day = 1; day <= 6; day++) {
            for (int race = 0; race < 8; race++) {
                y.bump(y.starter(1), y.starter(0));
                if (race > 0) {
                    y.bump(y.starter(3), y.starter(2));
                }
                y.finish();
            }
        }
        for (int crew = 0; crew < 24; crew++) {
            Check.due("20: with the most bumps", y.again(crew, 6), y.place(crew, 6));
            Check.due("20: with the most bumps", y.place(crew, 6), y.crew(crew, 1));
        }
    }

    private static void bestRise() {
        BumpsChart x = new BumpsChart();
        x.begin(6, 3, 3);
        x.bump(5, 4);
        x.finish();
        Check.due("21: no day is over", x.bestRise(), Check.NONE);
        x.finish();
        Check.due("21: the only one", x.bestRise(), 5);
        x.undo();
        Check.due("21: no day is over", x.bestRise(), Check.NONE);
        x = twoDays();
        Check.due("21: by three", x.bestRise(), 4);
    }

    private static void bestRiseOfSeveral() {
        BumpsChart x = new BumpsChart();
        x.begin(6, 6, 2);
        x.finish();
        Check.due("21: of all the head", x.bestRise(), 0);
        x.bump(5, 4);
        x.bump(2, 1);
        x.finish();
        Check.due("21: of two", x.bestRise(), 2);
        x.begin(7, 3, 2);
        x.finish();
        x.bump(6, 5);
        x.bump(4, 3);
        x.finish();
        x.finish();
        Check.due("21: of two", x.bestRise(), 4);
        x.finish();
        x.bump(6, 3);
        x.finish();
        Check.due("21: places now, rise till the last day", x.bestRise(), 4);
        x.bump(4, 2);
        x.finish();
        Check.due("21: the last day too", x.bestRise(), 4);
    }
}
