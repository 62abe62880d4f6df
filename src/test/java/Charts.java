/** Charts in states that several tests begin with. */
final class Charts {
    private Charts() { }

    static BumpsChart begun(int crews, int size, int days) {
        BumpsChart x = new BumpsChart();
        x.begin(crews, size, days);
        return x;
    }

    /** A race of 2 to 9 starters, the crews 0, 1 and so on; the gap 1500, the length 300, and two days. */
    static BumpsChart race(int starters) {
        BumpsChart x = begun(starters, 8, 2);
        if (starters == 9) {
            x.finish();
        }
        return x;
    }

    /** A race of the crews 0, 1 and so on with these speeds. */
    static BumpsChart raceOf(int... speeds) {
        BumpsChart x = race(speeds.length);
        for (int crew = 0; crew < speeds.length; crew++) {
            x.setSpeed(crew, speeds[crew]);
        }
        return x;
    }

    /** The only race of three crews is finished: there is no present race. */
    static BumpsChart over() {
        BumpsChart x = begun(3, 3, 1);
        x.finish();
        return x;
    }

    static void finish(BumpsChart x, int races) {
        for (int i = 0; i < races; i++) {
            x.finish();
        }
    }

    /** One bump and no other in a race of all crews, then the end of the race. */
    static void raceWith(BumpsChart x, int a, int b) {
        x.bump(a, b);
        x.finish();
    }
}
