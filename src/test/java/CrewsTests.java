/** Promises 1 to 7. */
final class CrewsTests {
    private CrewsTests() { }

    static void run() {
        aNewObject();
        begin();
        beginAgain();
        setSpeed();
        set();
        count();
        crewNow();
        crewInRace();
        crewAfterDays();
        at();
    }

    private static void aNewObject() {
        BumpsChart x = new BumpsChart();
        int[] due = {12, 4, 3, 4, 0, 2, 0, 4, 1500, 300, 0, 0, 0};
        for (int what = 0; what < due.length; what++) {
            Check.due("1: count(" + what + ")", x.count(what), due[what]);
        }
        Check.crews("1: places", x, 0, 1, 2, 3, 4, 5, 6, 7, 8, 9, 10, 11);
        for (int crew = 0; crew < 12; crew++) {
            int[] properties = {400, crew, crew / 4, crew < 8 ? Check.NONE : crew - 8, crew < 8 ? Check.NONE : 0, 0, 0,
                0, 0, 0};
            for (int what = 0; what < properties.length; what++) {
                Check.due("1: crew(" + crew + ", " + what + ")", x.crew(crew, what), properties[what]);
            }
        }
        Check.due("1: two objects are apart", new BumpsChart().setSpeed(0, 5), 400);
        Check.due("1: two objects are apart", x.crew(0, 0), 400);
    }

    private static void begin() {
        BumpsChart x = new BumpsChart();
        for (int crews = 2; crews <= 24; crews++) {
            for (int size = 3; size <= 8; size++) {
                int divisions = (int) Math.ceil((double) crews / size);
                Check.due("2: begin(" + crews + ", " + size + ", 6)", x.begin(crews, size, 6), divisions);
                Check.due("2: divisions", x.count(2), divisions);
                Check.due("2: present division", x.count(5), divisions - 1);
            }
        }
        int[][] wrong = {{1, 3, 1}, {25, 3, 1}, {-1, 3, 1}, {2, 2, 1}, {2, 9, 1}, {2, 0, 1}, {2, 3, 0}, {2, 3, 7},
            {Integer.MAX_VALUE, 3, 1}, {2, Integer.MIN_VALUE, 1}, {2, 3, -1}};
        for (int[] w : wrong) {
            Check.due("2: begin wrong", x.begin(w[0], w[1], w[2]), Check.INVALID);
        }
        Check.due("2: least", x.begin(2, 3, 1), 1);
        Check.due("2: days", x.count(3), 1);
        Check.due("2: most", x.begin(24, 8, 6), 3);
        Check.due("2: days", x.count(3), 6);
    }

    private static void beginAgain() {
        BumpsChart x = new BumpsChart();
        x.begin(6, 3, 2);
        x.setSpeed(2, 700);
        x.set(0, 200);
        x.set(1, 20);
        x.bump(5, 4);
        x.finish();
        x.bump(1, 0);
        x.finish();
        Check.due("2: a bump before", x.bump(5, 3), 0);
        Check.write(x, "4-3;");
        Check.due("2: begin anew", x.begin(6, 3, 2), 2);
        Check.crews("2: places anew", x, 0, 1, 2, 3, 4, 5);
        Check.due("2: speed anew", x.crew(2, 0), 400);
        Check.due("2: the gap stays", x.count(8), 200);
        Check.due("2: the length of a race stays", x.count(9), 20);
        Check.due("2: no day is over", x.count(4), 0);
        Check.due("2: no bump", x.count(6), 0);
        Check.due("2: none is out", x.crew(5, 4), 0);
        for (int crew = 0; crew < 6; crew++) {
            Check.due("2: no bump made", x.crew(crew, 8), 0);
            Check.due("2: no bump suffered", x.crew(crew, 9), 0);
        }
        Check.due("2: no day 1", x.place(0, 1), Check.INVALID);
        Check.due("2: none rose", x.bestRise(), Check.NONE);
        Check.due("2: the text is no part of it", x.count(11), 4);
        Check.due("2: the history goes on", x.count(10), 4);
    }

    private static void setSpeed() {
        BumpsChart x = new BumpsChart();
        Check.due("3: first", x.setSpeed(3, 1), 400);
        Check.due("3: least", x.setSpeed(3, 1000), 1);
        Check.due("3: most", x.setSpeed(3, 400), 1000);
        Check.due("3: the same", x.setSpeed(3, 400), 400);
        Check.due("3: each is a change", x.count(10), 4);
        Check.due("3: last crew", x.setSpeed(11, 7), 400);
        Check.due("3: set", x.crew(11, 0), 7);
        Check.due("3: of others", x.crew(10, 0), 400);
        int[][] wrong = {{-1, 5}, {12, 5}, {0, 0}, {0, 1001}, {0, -5}, {Integer.MAX_VALUE, 5}, {0, Integer.MIN_VALUE}};
        for (int[] w : wrong) {
            Check.due("3: setSpeed wrong", x.setSpeed(w[0], w[1]), Check.INVALID);
        }
        x.begin(2, 3, 1);
        Check.due("3: no crew 2 of 2", x.setSpeed(2, 5), Check.INVALID);
    }

    private static void set() {
        BumpsChart x = new BumpsChart();
        Check.due("4: gap", x.set(0, 100), 1500);
        Check.due("4: gap", x.set(0, 5000), 100);
        Check.due("4: gap", x.count(8), 5000);
        Check.due("4: length", x.set(1, 1), 300);
        Check.due("4: length", x.set(1, 1000), 1);
        Check.due("4: length", x.count(9), 1000);
        int[][] wrong = {{0, 99}, {0, 5001}, {1, 0}, {1, 1001}, {2, 500}, {-1, 500}, {0, -500}, {1, Integer.MIN_VALUE}};
        for (int[] w : wrong) {
            Check.due("4: set wrong", x.set(w[0], w[1]), Check.INVALID);
        }
        Check.due("4: gap after faults", x.count(8), 5000);
        Check.due("4: length after faults", x.count(9), 1000);
    }

    private static void count() {
        BumpsChart x = new BumpsChart();
        x.begin(7, 3, 1);
        Check.due("5: crews", x.count(0), 7);
        Check.due("5: size", x.count(1), 3);
        Check.due("5: divisions", x.count(2), 3);
        Check.due("5: starters of the lowest", x.count(7), 1);
        x.finish();
        Check.due("5: division", x.count(5), 1);
        Check.due("5: starters with the sandwich crew", x.count(7), 4);
        x.bump(6, 5);
        x.bump(4, 3);
        Check.due("5: bumps", x.count(6), 2);
        x.finish();
        Check.due("5: bumps of the next", x.count(6), 0);
        Check.due("5: days over", x.count(4), 0);
        x.bump(1, 0);
        Check.due("5: the head while they row", x.count(12), 0);
        x.finish();
        Check.due("5: the head", x.count(12), 1);
        Check.due("5: days over", x.count(4), 1);
        for (int what = 5; what <= 7; what++) {
            Check.due("5: no present race", x.count(what), Check.NONE);
        }
        Check.due("5: what", x.count(-1), Check.INVALID);
        Check.due("5: what", x.count(13), Check.INVALID);
        Check.due("5: what", x.count(Integer.MIN_VALUE), Check.INVALID);
    }

    private static void crewNow() {
        BumpsChart x = new BumpsChart();
        Check.due("6: division", x.crew(3, 2), 0);
        Check.due("6: division", x.crew(4, 2), 1);
        Check.due("6: division", x.crew(8, 2), 2);
        x.finish();
        x.bump(8, 7);
        Check.due("6: place while they row", x.crew(8, 1), 8);
        x.finish();
        Check.due("6: place", x.crew(8, 1), 7);
        Check.due("6: division", x.crew(8, 2), 1);
        Check.due("6: place", x.crew(7, 1), 8);
        Check.due("6: division", x.crew(7, 2), 2);
        int[][] wrong = {{-1, 0}, {12, 0}, {0, -1}, {0, 10}, {Integer.MIN_VALUE, 0}, {0, Integer.MAX_VALUE}};
        for (int[] w : wrong) {
            Check.due("6: wrong", x.crew(w[0], w[1]), Check.INVALID);
        }
    }

    private static void crewInRace() {
        BumpsChart x = new BumpsChart();
        x.finish();
        Check.due("6: number", x.crew(4, 3), 0);
        Check.due("6: number of the sandwich crew", x.crew(8, 3), 4);
        Check.due("6: no starter ahead", x.crew(3, 3), Check.NONE);
        Check.due("6: no starter behind", x.crew(9, 3), Check.NONE);
        Check.due("6: no starter ahead", x.crew(3, 4), Check.NONE);
        Check.due("6: no starter behind", x.crew(9, 4), Check.NONE);
        Check.due("6: not out", x.crew(5, 4), 0);
        x.bump(6, 5);
        Check.due("6: out", x.crew(5, 4), 1);
        Check.due("6: out", x.crew(6, 4), 1);
        Check.due("6: not out", x.crew(4, 4), 0);
        Check.due("6: not counted before the end", x.crew(6, 8), 0);
        x.finish();
        Check.due("6: made", x.crew(6, 8), 1);
        Check.due("6: made on it", x.crew(5, 9), 1);
        Check.due("6: it made none", x.crew(5, 8), 0);
        Check.due("6: none made on it", x.crew(6, 9), 0);
        x.begin(3, 3, 1);
        x.finish();
        Check.due("6: no present race", x.crew(0, 3), Check.NONE);
        Check.due("6: no present race", x.crew(0, 4), Check.NONE);
    }

    private static void crewAfterDays() {
        BumpsChart x = new BumpsChart();
        x.begin(4, 4, 3);
        Check.due("6: no blades before a day is over", x.crew(3, 7), 0);
        x.bump(3, 2);
        Check.due("6: not risen before the day is over", x.crew(3, 5), 0);
        x.finish();
        Check.due("6: risen", x.crew(3, 5), 1);
        Check.due("6: fallen", x.crew(2, 6), 1);
        Check.due("6: blades", x.crew(3, 7), 1);
        Check.due("6: spoons", x.crew(2, 7), 2);
        Check.due("6: neither", x.crew(0, 7), 0);
        x.bump(3, 1);
        x.finish();
        Check.due("6: blades after two days", x.crew(3, 7), 1);
        Check.due("6: no spoons with a level day", x.crew(2, 7), 0);
        Check.due("6: no spoons with a level day", x.crew(1, 7), 0);
        x.bump(0, 0);
        x.bump(1, 3);
        x.finish();
        Check.due("6: blades lost", x.crew(3, 7), 0);
        Check.due("6: risen on two", x.crew(3, 5), 2);
        Check.due("6: fallen on one", x.crew(3, 6), 1);
        Check.due("6: made two", x.crew(3, 8), 2);
        Check.due("6: made on it", x.crew(3, 9), 1);
    }

    private static void at() {
        BumpsChart x = new BumpsChart();
        Check.due("7: first", x.at(0), 0);
        Check.due("7: last", x.at(11), 11);
        Check.due("7: none", x.at(12), Check.INVALID);
        Check.due("7: none", x.at(-1), Check.INVALID);
        Check.due("7: none", x.at(Integer.MAX_VALUE), Check.INVALID);
        x.bump(11, 10);
        Check.due("7: not before the end", x.at(10), 10);
        x.finish();
        Check.due("7: exchanged", x.at(10), 11);
        Check.due("7: exchanged", x.at(11), 10);
        x.begin(2, 8, 1);
        Check.due("7: none", x.at(2), Check.INVALID);
    }
}
