import java.util.function.IntUnaryOperator;

/** Counts the checks of the project's tests and prints each one that fails. */
final class Check {
    static final int INVALID = -1001;
    static final int IMPOSSIBLE = -1002;
    static final int LIMIT = -1003;
    static final int NONE = -1004;

    private static int passed = 0;
    private static int failed = 0;
    private static int sentences = 0;
    private static String sentence = "";

    private Check() { }

    /** Runs the test of one sentence of the document: its failures tell the sentence, and it must check something. */
    static void sentence(String text, Runnable test) {
        int before = passed + failed;
        sentence = text + " | ";
        test.run();
        holds("the sentence has a check", passed + failed > before);
        sentence = "";
        sentences++;
    }

    /** Each value from least to most is taken, those next to them and the outermost ones are refused. */
    static void range(String what, int least, int most, IntUnaryOperator call) {
        for (int value = least; value <= most; value++) {
            holds(what + ": " + value + " is in the range", call.applyAsInt(value) != INVALID);
        }
        for (int value : new int[] {least - 1, most + 1, Integer.MIN_VALUE, Integer.MAX_VALUE}) {
            due(what + ": " + value, call.applyAsInt(value), INVALID);
        }
    }

    static void due(String what, long got, long want) {
        if (got == want) {
            passed++;
        } else {
            failed++;
            System.out.println(sentence + what + " answered " + got + ", due is " + want);
        }
    }

    static void same(String what, String got, String want) {
        if (got.equals(want)) {
            passed++;
        } else {
            failed++;
            System.out.println(sentence + what + ":\n  is     " + got + "\n  due is " + want);
        }
    }

    static void holds(String what, boolean holds) {
        due(what, holds ? 1 : 0, 1);
    }

    static void crews(String what, BumpsChart chart, int... want) {
        StringBuilder got = new StringBuilder();
        StringBuilder due = new StringBuilder();
        for (int place = 0; place < chart.count(0); place++) {
            got.append(chart.at(place)).append(' ');
        }
        for (int crew : want) {
            due.append(crew).append(' ');
        }
        same(what, got.toString(), due.toString());
    }

    static void starters(String what, BumpsChart chart, int... want) {
        for (int i = 0; i < want.length; i++) {
            due(what + ", starter " + i, chart.starter(i), want[i]);
        }
        due(what + ", no more starters", chart.starter(want.length), NONE);
    }

    static void write(BumpsChart chart, String text) {
        chart.clearText();
        for (int i = 0; i < text.length(); i++) {
            due("type " + text.charAt(i), chart.type(text.charAt(i)), i + 1);
        }
    }

    /** All that can be asked of a chart of few crews, in less than 200 calls. */
    static String told(BumpsChart chart) {
        StringBuilder all = new StringBuilder();
        for (int what = 0; what <= 12; what++) {
            all.append(chart.count(what)).append(' ');
        }
        int crews = chart.count(0);
        for (int crew = 0; crew < crews; crew++) {
            all.append("| ").append(chart.at(crew)).append(' ');
            for (int what = 0; what <= 9; what++) {
                all.append(chart.crew(crew, what)).append(' ');
            }
            for (int day = 0; day <= chart.count(4); day++) {
                all.append(chart.place(crew, day)).append(' ').append(chart.again(crew, day)).append(' ');
            }
            all.append(chart.speedFor(crew)).append(' ');
        }
        for (int i = 0; i < 4; i++) {
            all.append("| ").append(chart.starter(i)).append(' ');
            for (int what = 0; what < 3; what++) {
                all.append(chart.bumped(i, what)).append(' ').append(chart.foretold(i, what)).append(' ');
            }
        }
        return all.append("| ").append(chart.fault(0)).append(' ').append(chart.fault(1)).toString();
    }

    static int passed() {
        return passed;
    }

    static int failed() {
        return failed;
    }

    static int sentences() {
        return sentences;
    }
}
