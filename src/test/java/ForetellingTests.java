/** Promises 15 to 18. */
final class ForetellingTests {
    private ForetellingTests() { }

    static void run() {
        foretold();
        foretoldOfSeveral();
        foretoldAtTheLength();
        foretoldWithoutRace();
        row();
        rowWithBumps();
        distanceBits();
        bitsOfDistances();
        speedFor();
        speedForMayNeedLess();
    }

    private static int bits(double value) {
        return Float.floatToIntBits((float) value);
    }

    private static BumpsChart six(int... speeds) {
        BumpsChart x = new BumpsChart();
        x.begin(speeds.length, 8, 2);
        for (int crew = 0; crew < speeds.length; crew++) {
            x.setSpeed(crew, speeds[crew]);
        }
        return x;
    }

    private static void bumpIs(String what, BumpsChart x, int index, int a, int b, double time) {
        Check.due(what + ", a", x.foretold(index, 0), a);
        Check.due(what + ", b", x.foretold(index, 1), b);
        Check.due(what + ", time", x.foretold(index, 2), bits(time));
    }

    private static void foretold() {
        BumpsChart x = six(300, 310, 450, 403, 410, 455);
        bumpIs("15: quickest", x, 0, 2, 1, 1500.0 / 140.0);
        bumpIs("15: next", x, 1, 5, 4, 1500.0 / 45.0);
        bumpIs("15: over two", x, 2, 3, 0, 4500.0 / 103.0);
        Check.due("15: no more", x.foretold(3, 0), Check.NONE);
        x.bump(1, 0);
        bumpIs("15: as if none had been made", x, 0, 2, 1, 1500.0 / 140.0);
        x.set(0, 700);
        bumpIs("15: with another gap", x, 2, 3, 0, 2100.0 / 103.0);
        Check.due("15: negative", x.foretold(-1, 0), Check.INVALID);
        Check.due("15: what", x.foretold(0, -1), Check.INVALID);
        Check.due("15: what", x.foretold(0, 3), Check.INVALID);
        Check.due("15: what rather than none", x.foretold(9, 3), Check.INVALID);
        Check.due("15: great", x.foretold(Integer.MAX_VALUE, 0), Check.NONE);
        Check.due("15: least", x.foretold(Integer.MIN_VALUE, 2), Check.INVALID);
    }

    private static void foretoldOfSeveral() {
        BumpsChart x = six(400, 410, 420, 430, 440, 450, 460, 470);
        for (int i = 0; i < 4; i++) {
            bumpIs("15: of several the foremost", x, i, 2 * i + 1, 2 * i, 150.0);
        }
        Check.due("15: no more", x.foretold(4, 0), Check.NONE);
        x = six(500, 400, 400, 399);
        Check.due("15: none is faster", x.foretold(0, 0), Check.NONE);
    }

    private static void foretoldAtTheLength() {
        BumpsChart x = six(400, 405);
        bumpIs("15: at most the length", x, 0, 1, 0, 300.0);
        x.set(1, 299);
        Check.due("15: more than the length", x.foretold(0, 0), Check.NONE);
        x.set(1, 300);
        x.set(0, 1501);
        Check.due("15: more than the length", x.foretold(0, 0), Check.NONE);
        x.set(0, 100);
        x.setSpeed(0, 1);
        x.setSpeed(1, 1000);
        bumpIs("15: least time", x, 0, 1, 0, 100.0 / 999.0);
    }

    private static void foretoldWithoutRace() {
        BumpsChart x = new BumpsChart();
        x.begin(2, 3, 1);
        x.setSpeed(1, 500);
        x.finish();
        Check.due("15: no race", x.foretold(0, 0), Check.NONE);
        Check.due("15: no race, what", x.foretold(0, 3), Check.INVALID);
        Check.due("16: no race", x.row(), Check.IMPOSSIBLE);
        Check.due("17: no race", x.distanceBits(1, 0), Check.NONE);
        Check.due("17: no race, index", x.distanceBits(0, 0), Check.INVALID);
        Check.due("18: no race", x.speedFor(1), Check.NONE);
        Check.due("18: no race, no crew", x.speedFor(2), Check.INVALID);
    }

    private static void row() {
        BumpsChart x = six(300, 310, 450, 403, 410, 455);
        Check.due("16: three", x.row(), 3);
        Check.crews("16: exchanged", x, 3, 2, 1, 0, 5, 4);
        Check.due("16: the day is over", x.count(4), 1);
        Check.due("16: counted", x.crew(3, 8), 1);
        Check.due("16: one change", x.undo(), 3);
        Check.crews("16: taken back at once", x, 0, 1, 2, 3, 4, 5);
        Check.due("16: no bump before it", x.count(6), 0);
        x = six(400, 400, 400);
        Check.due("16: none", x.row(), 0);
        Check.due("16: the day is over", x.count(4), 1);
    }

    private static void rowWithBumps() {
        BumpsChart x = six(300, 310, 450, 403, 410, 455);
        x.bump(1, 0);
        Check.due("16: a bump was made", x.row(), Check.IMPOSSIBLE);
        Check.due("16: nothing happened", x.count(6), 1);
        x.rerow(0);
        Check.due("16: it is taken back", x.row(), 3);
    }

    private static void distanceBits() {
        BumpsChart x = six(400, 431, 390);
        Check.due("17: at the start", x.distanceBits(1, 0), bits(1500));
        Check.due("17: at the start", x.distanceBits(2, 0), bits(1500));
        Check.due("17: nearer", x.distanceBits(1, 48), bits(1500 - 48 * 31));
        Check.due("17: past it", x.distanceBits(1, 49), bits(1500 - 49 * 31));
        Check.due("17: farther", x.distanceBits(2, 1000), bits(1500 + 41000));
        x.setSpeed(1, 415);
        Check.due("17: reached", x.distanceBits(1, 100), 0);
        x.bump(1, 0);
        Check.due("17: were there no bumps", x.distanceBits(1, 100), 0);
        x.set(0, 101);
        x.setSpeed(0, 1);
        x.setSpeed(1, 1000);
        x.setSpeed(2, 1);
        Check.due("17: least", x.distanceBits(1, 1000), bits(101 - 999000));
        Check.due("17: greatest", x.distanceBits(2, 1000), bits(101 + 999000));
        for (int time = 0; time <= 200; time++) {
            Check.due("17: any time", x.distanceBits(1, time), bits(101 - 999 * time));
        }
        Check.due("17: index 0", x.distanceBits(0, 5), Check.INVALID);
        Check.due("17: index", x.distanceBits(3, 5), Check.NONE);
        Check.due("17: index", x.distanceBits(Integer.MAX_VALUE, 5), Check.NONE);
        Check.due("17: index", x.distanceBits(Integer.MIN_VALUE, 5), Check.INVALID);
        Check.due("17: time", x.distanceBits(1, -1), Check.INVALID);
        Check.due("17: time", x.distanceBits(1, 1001), Check.INVALID);
        Check.due("17: time rather than index", x.distanceBits(9, 1001), Check.INVALID);
    }

    private static void bitsOfDistances() {
        BumpsChart x = six(1, 1000);
        for (int gap = 100; gap <= 5000; gap++) {
            x = gap % 200 == 0 ? six(1, 1000) : x;
            x.set(0, gap);
            Check.due("17: after a second, with a gap of " + gap, x.distanceBits(1, 1), bits(gap - 999));
        }
    }

    private static void speedFor() {
        BumpsChart x = six(400, 400, 400);
        Check.due("18: the first one", x.speedFor(0), Check.NONE);
        Check.due("18: the next one", x.speedFor(1), 405);
        Check.due("18: its own speed does not count", x.setSpeed(1, 900), 400);
        Check.due("18: the next one", x.speedFor(1), 405);
        x.setSpeed(1, 400);
        x.setSpeed(0, 996);
        Check.due("18: no speed is enough for the next", x.speedFor(1), Check.NONE);
        x.setSpeed(0, 995);
        Check.due("18: the greatest speed is enough", x.speedFor(1), 1000);
        x.set(1, 1000);
        x.set(0, 100);
        x.setSpeed(0, 1);
        Check.due("18: before it is bumped itself", x.speedFor(1), 201);
        x.setSpeed(2, 1);
        Check.due("18: the least that is faster", x.speedFor(1), 2);
        x.bump(1, 0);
        Check.due("18: as if none had been made", x.speedFor(1), 2);
        Check.due("18: nothing is changed", x.crew(1, 0), 400);
        Check.due("18: no crew", x.speedFor(-1), Check.INVALID);
        Check.due("18: no crew", x.speedFor(3), Check.INVALID);
        BumpsChart y = new BumpsChart();
        Check.due("18: no starter", y.speedFor(7), Check.NONE);
        y.finish();
        Check.due("18: the sandwich crew", y.speedFor(8), 405);
        Check.due("18: no starter", y.speedFor(9), Check.NONE);
    }

    private static void speedForMayNeedLess() {
        // once the crews 1 and 2 are out, the crew 3 reaches the slow crew 0 with less speed than it needs for 2
        BumpsChart x = six(100, 420, 900, 400);
        Check.due("18: over those that are out", x.speedFor(3), 115);
        Check.due("18: the bump", x.setSpeed(3, 115), 400);
        bumpIs("18: the bump", x, 1, 3, 0, 300.0);
    }
}
