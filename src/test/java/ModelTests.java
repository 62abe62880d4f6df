/** Runs of up to 512 calls, the same ones each time, whose answers must be those of the model. */
final class ModelTests {
    private static final int RUNS = 400;
    private static final int CALLS = 512;
    private static final int MOST_CALLS_OF_A_STEP = 45;

    private static long seed = 20261119L;

    private BumpsChart chart = new BumpsChart();
    private Model model = new Model();
    private final int run;
    private final int calmness;
    private int left = CALLS;

    private ModelTests(int run) {
        this.run = run;
        this.calmness = 1 + run % 4;
    }

    static void run() {
        for (int run = 0; run < RUNS; run++) {
            ModelTests t = new ModelTests(run);
            while (t.left >= MOST_CALLS_OF_A_STEP) {
                t.next();
            }
        }
    }

    private static int pick(int bound) {
        seed = seed * 6364136223846793005L + 1442695040888963407L;
        return (int) ((seed >>> 33) % bound);
    }

    private static int between(int least, int most) {
        return least + pick(most - least + 1);
    }

    /** A number mostly in a range, else at its edges, outside it, or far off. */
    private static int about(int least, int most) {
        int[] edges = {least - 1, most + 1, least, most, Integer.MIN_VALUE, Integer.MAX_VALUE, -1, 0};
        return pick(12) == 0 ? edges[pick(edges.length)] : between(least, most);
    }

    private void same(String call, int got, int want) {
        left--;
        if (got != want) {
            Check.due("model run " + run + ", call " + (CALLS - left) + ": " + call, got, want);
        } else {
            Check.due("model", 0, 0);
        }
    }

    private int someCrew() {
        return about(0, model.count(0) - 1);
    }

    private int someStarter() {
        int starters = Math.max(1, model.count(7));
        int crew = model.starter(pick(starters));
        return crew >= 0 && pick(8) > 0 ? crew : someCrew();
    }

    private void next() {
        int kind = pick(20);
        if (kind < 2 * calmness) {
            ask();
        } else if (kind < 12) {
            tryBump();
        } else if (kind < 15) {
            write();
        } else {
            change();
        }
    }

    private void tryBump() {
        int behind = between(0, 8);
        int a = model.starter(behind);
        int ahead = behind - 1;
        while (ahead >= 0 && model.crew(model.starter(ahead), 4) == 1 && a >= 0) {
            ahead--;
        }
        int b = ahead >= 0 && pick(4) > 0 ? model.starter(ahead) : someStarter();
        a = pick(8) > 0 ? a : someStarter();
        same("why(" + a + ", " + b + ")", chart.why(a, b), model.why(a, b));
        same("bump(" + a + ", " + b + ")", chart.bump(a, b), model.bump(a, b));
        for (int what = 0; what < 3; what++) {
            int bump = about(0, Math.max(0, model.count(6) - 1));
            same("bumped(" + bump + ", " + what + ")", chart.bumped(bump, what), model.bumped(bump, what));
        }
    }

    private void change() {
        int kind = pick(48);
        if (kind == 0) {
            int crews = about(2, 24);
            int size = about(3, 8);
            int days = about(1, 6);
            same("begin(" + crews + ", " + size + ", " + days + ")", chart.begin(crews, size, days),
                model.begin(crews, size, days));
        } else if (kind < 16) {
            int crew = pick(3) > 0 ? someStarter() : someCrew();
            int speed = pick(2) == 0 ? about(1, 1000) : between(395, 420);
            same("setSpeed(" + crew + ", " + speed + ")", chart.setSpeed(crew, speed), model.setSpeed(crew, speed));
        } else if (kind < 19) {
            int what = about(0, 1);
            int value = what == 0 ? about(100, 5000) : about(1, 1000);
            same("set(" + what + ", " + value + ")", chart.set(what, value), model.set(what, value));
        } else if (kind < 26) {
            int bump = about(0, Math.max(0, model.count(6) - 1));
            same("rerow(" + bump + ")", chart.rerow(bump), model.rerow(bump));
        } else if (kind < 34) {
            same("finish()", chart.finish(), model.finish());
        } else if (kind < 43) {
            same("row()", chart.row(), model.row());
        } else {
            same("undo()", chart.undo(), model.undo());
        }
        look();
    }

    private void look() {
        for (int what = 4; what <= 12; what++) {
            same("count(" + what + ")", chart.count(what), model.count(what));
        }
        for (int i = 0; i < 3; i++) {
            int place = someCrew();
            same("at(" + place + ")", chart.at(place), model.at(place));
        }
        same("bestRise()", chart.bestRise(), model.bestRise());
    }

    private void ask() {
        int crew = pick(2) == 0 ? someStarter() : someCrew();
        int index = about(0, 4);
        int what = about(0, 12);
        int day = about(0, Math.max(0, model.count(4)));
        int time = about(0, 1000);
        same("count(" + what + ")", chart.count(what), model.count(what));
        for (int property = 3; property <= 9; property++) {
            same("crew(" + crew + ", " + property + ")", chart.crew(crew, property), model.crew(crew, property));
        }
        same("crew(" + crew + ", " + what + ")", chart.crew(crew, what), model.crew(crew, what));
        same("starter(" + index + ")", chart.starter(index), model.starter(index));
        for (int asked = 0; asked <= 2; asked++) {
            same("foretold(" + index + ", " + asked + ")", chart.foretold(index, asked), model.foretold(index, asked));
        }
        same("distanceBits(" + index + ", " + time + ")", chart.distanceBits(index, time),
            model.distanceBits(index, time));
        same("place(" + crew + ", " + day + ")", chart.place(crew, day), model.place(crew, day));
        same("again(" + crew + ", " + day + ")", chart.again(crew, day), model.again(crew, day));
        if (pick(10) == 0) {
            same("speedFor(" + crew + ")", chart.speedFor(crew), model.speedFor(crew));
        }
    }

    private void write() {
        if (pick(2) == 0) {
            same("clearText()", chart.clearText(), model.clearText());
        }
        for (int bump = pick(4); bump > 0; bump--) {
            int behind = between(1, 8);
            String text = model.starter(behind) + "-" + model.starter(behind - 1) + ";";
            for (int i = 0; i < text.length(); i++) {
                int sign = pick(40) > 0 ? text.charAt(i) : about(32, 126);
                same("type(" + sign + ")", chart.type(sign), model.type(sign));
            }
        }
        int what = about(0, 1);
        same("fault(0)", chart.fault(0), model.fault(0));
        same("fault(1)", chart.fault(1), model.fault(1));
        same("fault(" + what + ")", chart.fault(what), model.fault(what));
        same("enter()", chart.enter(), model.enter());
        same("count(6)", chart.count(6), model.count(6));
    }
}
