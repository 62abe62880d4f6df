/** The boundaries that the document names for texts and in the promises 22 to 25, sentence by sentence. */
final class TextsEdgesTests {
    private TextsEdgesTests() { }

    static void run() {
        terms();
        promises();
    }

    private static void terms() {
        Check.sentence("There is a text of at most 80 characters", TextsEdgesTests::atMost80);
        Check.sentence("initially empty", TextsEdgesTests::initiallyEmpty);
        Check.sentence("each followed by ;", TextsEdgesTests::followedBySemicolon);
        Check.sentence("(1 or 2 digits each)", TextsEdgesTests::oneOrTwoDigits);
        Check.sentence("the position, from 0, of the first character of the first bump that is not possible",
            TextsEdgesTests::positions);
        Check.sentence("1 if it is not of this form", TextsEdgesTests::form);
        Check.sentence("(also if its ; is missing)", TextsEdgesTests::semicolonMissing);
        Check.sentence("2 if a number is that of no starter", TextsEdgesTests::noStarter);
        Check.sentence("(or there is no present race)", TextsEdgesTests::noPresentRace);
        Check.sentence("3 if a crew is out (both bumps made and those ahead in the text count)", TextsEdgesTests::out);
        Check.sentence("4 if a does not start behind b", TextsEdgesTests::notBehind);
        Check.sentence("5 if some crew between them is not out", TextsEdgesTests::someBetween);
        Check.sentence("the first one of these that applies", TextsEdgesTests::firstReason);
    }

    private static void promises() {
        Check.sentence("22: character: 32 to 126", () ->
            Check.range("character", 32, 126, character -> new BumpsChart().type(character)));
        Check.sentence("22: Returns the length of the text", TextsEdgesTests::typeLength);
        Check.sentence("22: LIMIT_REACHED if it has 80 characters", TextsEdgesTests::typeLimit);
        Check.sentence("23: Returns the length it had", TextsEdgesTests::clearLength);
        Check.sentence("24: what: 0 or 1", () -> Check.range("what", 0, 1, what -> with("x").fault(what)));
        Check.sentence("24: INVALID_ARGUMENT if what is out of range", TextsEdgesTests::faultInvalid);
        Check.sentence("24: NOT_FOUND if the text has no fault (also if it is empty)", TextsEdgesTests::noFault);
        Check.sentence("25: Returns how many there are in it", TextsEdgesTests::enterCounts);
        Check.sentence("25: Makes all bumps of the text, which stays", TextsEdgesTests::textStays);
        Check.sentence("25: of an empty text none, also if there is no present race", TextsEdgesTests::enterEmpty);
        Check.sentence("25: NOT_POSSIBLE if it has a fault", TextsEdgesTests::enterFaulty);
    }

    /** The crews 0 to 8 race, and the text is this. */
    private static BumpsChart with(String text) {
        BumpsChart x = Charts.race(9);
        Check.write(x, text);
        return x;
    }

    private static void faultIs(BumpsChart x, int position, int reason) {
        Check.due("position", x.fault(0), position);
        Check.due("reason", x.fault(1), reason);
        Check.due("enter", x.enter(), Check.IMPOSSIBLE);
    }

    private static void faultless(BumpsChart x, int bumps) {
        Check.due("no position", x.fault(0), Check.NONE);
        Check.due("no reason", x.fault(1), Check.NONE);
        Check.due("enter", x.enter(), bumps);
    }

    private static String spaces(int length) {
        return " ".repeat(length);
    }

    private static void atMost80() {
        BumpsChart x = with(spaces(79));
        Check.due("the last one", x.type(32), 80);
        Check.due("one too many", x.type(32), Check.LIMIT);
        Check.due("the length", x.count(11), 80);
        BumpsChart y = with("08-07;06-05;04-03;02-01;" + spaces(55) + ";");
        faultIs(y, 24, 1);
        Check.due("the length", y.count(11), 80);
        String digits = "9".repeat(80);
        faultIs(with(digits), 0, 1);
        faultIs(with("8-7;" + "9".repeat(76)), 4, 1);
        faultIs(with("8-7;" + spaces(74) + "6-"), 4, 1);
    }

    private static void initiallyEmpty() {
        BumpsChart x = new BumpsChart();
        Check.due("length", x.count(11), 0);
        Check.due("cleared", x.clearText(), 0);
        faultless(x, 0);
    }

    private static void followedBySemicolon() {
        faultless(with("8-7;"), 1);
        faultless(with("8-7;6-5;"), 2);
        faultIs(with("8-7;;"), 4, 1);
        faultIs(with(";8-7;"), 0, 1);
        faultIs(with("8-7,6-5;"), 0, 1);
        faultIs(with("8-7 ;"), 0, 1);
        faultIs(with("8-7:"), 0, 1);
        faultIs(with("8-7<"), 0, 1);
    }

    private static void oneOrTwoDigits() {
        faultIs(with("-7;"), 0, 1);
        faultIs(with("8-;"), 0, 1);
        faultIs(with("-;"), 0, 1);
        faultless(with("8-7;"), 1);
        faultless(with("08-7;"), 1);
        faultless(with("8-07;"), 1);
        faultless(with("08-07;"), 1);
        faultless(with("01-00;"), 1);
        faultIs(with("008-7;"), 0, 1);
        faultIs(with("8-007;"), 0, 1);
        BumpsChart x = Charts.begun(24, 8, 1);
        Check.write(x, "23-22;");
        faultless(x, 1);
        BumpsChart y = Charts.begun(24, 8, 1);
        Check.write(y, "18-17;16-9;");
        faultIs(y, 6, 2);
    }

    private static void positions() {
        faultIs(with("7-8;"), 0, 4);
        faultIs(with("8-7;7-6;"), 4, 3);
        faultIs(with("08-7;7-6;"), 5, 3);
        faultIs(with("08-07;7-6;"), 6, 3);
        faultIs(with("8-7;6-5;4-3;2-1;1-0;"), 16, 3);
        faultIs(with("08-07;06-05;04-03;02-01;01-00;"), 24, 3);
        faultIs(with("08-07;06-05;04-03;02-01;x"), 24, 1);
        faultIs(with("8-6;7-8;x"), 0, 5);
        faultIs(with("8-7;x;y;"), 4, 1);
        BumpsChart x = with("8-7;8-7;");
        Check.due("the first is possible", x.fault(0), 4);
        x.bump(2, 1);
        Check.due("still", x.fault(0), 4);
        x.bump(8, 7);
        Check.due("not any more", x.fault(0), 0);
        x.undo();
        Check.due("again", x.fault(0), 4);
    }

    private static void form() {
        String[] wrong = {" ", "8", "-", ";", "8-7", "8 -7;", "8- 7;", " 8-7;", "8--7;", "8=7;", "8,7;", "8.7;",
            "a-7;", "8-b;", "+8-7;", "8-+7;", "8-7;".replace('8', '/'), "8-7;".replace('8', ':'),
            "8-7;".replace('7', '/'), "8-7;".replace('7', ':'), "87;", "8-7-6;", "~", "8;7-"};
        for (String w : wrong) {
            faultIs(with(w), 0, 1);
        }
    }

    private static void semicolonMissing() {
        faultIs(with("8-7"), 0, 1);
        faultIs(with("08-07"), 0, 1);
        faultIs(with("8-7;6-5"), 4, 1);
        faultIs(with("8-7;6"), 4, 1);
        faultIs(with("8-7;6-"), 4, 1);
        BumpsChart x = with("8-7");
        x.type(';');
        faultless(x, 1);
        BumpsChart old = with("8-7;");
        old.clearText();
        Check.due("it goes again", old.type('8'), 1);
        Check.due("it goes again", old.type('-'), 2);
        Check.due("it goes again", old.type('7'), 3);
        faultIs(old, 0, 1);
    }

    private static void noStarter() {
        faultIs(with("9-8;"), 0, 2);
        faultIs(with("8-9;"), 0, 2);
        faultIs(with("99-99;"), 0, 2);
        BumpsChart x = new BumpsChart();
        x.finish();
        Check.write(x, "4-3;");
        faultIs(x, 0, 2);
        Check.write(x, "9-8;");
        faultIs(x, 0, 2);
        Check.write(x, "12-8;");
        faultIs(x, 0, 2);
        Check.write(x, "5-4;8-7;");
        faultless(x, 2);
    }

    private static void noPresentRace() {
        BumpsChart x = Charts.over();
        Check.write(x, "1-0;");
        faultIs(x, 0, 2);
        Check.write(x, "0-0;");
        faultIs(x, 0, 2);
        Check.write(x, "1-0");
        faultIs(x, 0, 1);
        x.clearText();
        faultless(x, 0);
    }

    private static void out() {
        faultIs(with("8-7;8-6;"), 4, 3);
        faultIs(with("8-7;7-6;"), 4, 3);
        faultIs(with("7-6;8-7;"), 4, 3);
        faultIs(with("7-6;8-6;"), 4, 3);
        BumpsChart x = Charts.race(9);
        x.bump(7, 6);
        Check.write(x, "8-7;");
        faultIs(x, 0, 3);
        Check.write(x, "5-4;6-3;");
        faultIs(x, 4, 3);
        Check.write(x, "8-5;");
        faultless(x, 1);
        BumpsChart both = Charts.race(9);
        both.bump(7, 6);
        Check.write(both, "5-4;8-3;");
        faultless(both, 2);
    }

    private static void notBehind() {
        faultIs(with("7-8;"), 0, 4);
        faultIs(with("8-8;"), 0, 4);
        faultIs(with("0-0;"), 0, 4);
        faultIs(with("0-8;"), 0, 4);
        BumpsChart x = Charts.race(2);
        Charts.raceWith(x, 1, 0);
        Check.write(x, "1-0;");
        faultIs(x, 0, 4);
        Check.write(x, "0-1;");
        faultless(x, 1);
    }

    private static void someBetween() {
        faultIs(with("8-6;"), 0, 5);
        faultIs(with("8-0;"), 0, 5);
        faultIs(with("7-6;8-4;"), 4, 5);
        faultIs(with("6-5;8-4;"), 4, 5);
        faultless(with("7-6;8-5;"), 2);
        faultless(with("5-4;6-3;7-2;8-1;"), 4);
        faultIs(with("6-3;5-4;"), 0, 5);
    }

    private static void firstReason() {
        faultIs(with("9-9"), 0, 1);
        faultIs(with("8-7;8-7"), 4, 1);
        faultIs(with("7-6;9-7;"), 4, 2);
        faultIs(with("7-6;7-9;"), 4, 2);
        faultIs(with("9-9;"), 0, 2);
        faultIs(with("7-6;6-7;"), 4, 3);
        faultIs(with("7-6;7-7;"), 4, 3);
        faultIs(with("7-6;7-4;"), 4, 3);
        faultIs(with("4-8;"), 0, 4);
    }

    private static void typeLength() {
        BumpsChart x = new BumpsChart();
        for (int length = 1; length <= 80; length++) {
            Check.due("length", x.type(length % 2 == 0 ? 32 : 126), length);
            Check.due("told too", x.count(11), length);
        }
    }

    private static void typeLimit() {
        BumpsChart x = with(spaces(80));
        for (int character : new int[] {32, 126, 59}) {
            Check.due("full", x.type(character), Check.LIMIT);
        }
        for (int character : new int[] {31, 127, -1, Integer.MAX_VALUE}) {
            Check.due("full and out of range", x.type(character), Check.INVALID);
        }
        Check.due("nothing is lost", x.clearText(), 80);
        Check.due("there is room again", x.type(126), 1);
    }

    private static void clearLength() {
        for (int length : new int[] {0, 1, 79, 80}) {
            BumpsChart x = with(spaces(length));
            Check.due("of " + length, x.clearText(), length);
            Check.due("of none then", x.clearText(), 0);
            Check.due("no change is recorded", x.count(10), 2);
        }
    }

    private static void faultInvalid() {
        for (int what : new int[] {-1, 2, Integer.MIN_VALUE, Integer.MAX_VALUE}) {
            Check.due("of an empty text", new BumpsChart().fault(what), Check.INVALID);
            Check.due("of one without fault", with("8-7;").fault(what), Check.INVALID);
            Check.due("of one with a fault", with("x").fault(what), Check.INVALID);
        }
    }

    private static void noFault() {
        faultless(new BumpsChart(), 0);
        faultless(Charts.over(), 0);
        faultless(with("8-7;"), 1);
        BumpsChart x = with("x");
        x.clearText();
        faultless(x, 0);
    }

    private static void enterCounts() {
        faultless(with(""), 0);
        faultless(with("8-7;"), 1);
        faultless(with("08-07;06-05;04-03;02-01;"), 4);
        BumpsChart x = with("2-1;");
        x.bump(8, 7);
        x.bump(6, 5);
        Check.due("those of the text alone", x.enter(), 1);
        Check.due("all of the race", x.count(6), 3);
        Check.due("behind those made", x.bumped(2, 0), 2);
    }

    private static void textStays() {
        BumpsChart x = with("8-7;6-5;");
        Check.due("two", x.enter(), 2);
        Check.due("the text", x.count(11), 8);
        faultIs(x, 0, 3);
        x.rerow(0);
        faultIs(x, 4, 3);
        x.rerow(0);
        Check.due("once more", x.enter(), 2);
        x.undo();
        Check.due("undo takes the bumps alone", x.count(6), 0);
        Check.due("undo takes the bumps alone", x.count(11), 8);
        x.clearText();
        x.undo();
        Check.due("and brings no text back", x.count(11), 0);
    }

    private static void enterEmpty() {
        BumpsChart x = new BumpsChart();
        Check.due("with a race", x.enter(), 0);
        Check.due("no bump", x.count(6), 0);
        Check.due("it returned no error: a change", x.count(10), 1);
        x.bump(9, 8);
        Check.due("with a bump made", x.enter(), 0);
        Check.due("the bump stays", x.bumped(0, 0), 9);
        BumpsChart over = Charts.over();
        Check.due("without a race", over.enter(), 0);
        Check.due("a change too", over.count(10), 3);
        Check.due("no race comes of it", over.count(6), Check.NONE);
        Check.due("taken back", over.undo(), 2);
        Check.due("still without a race", over.count(5), Check.NONE);
        Check.due("the last race taken back", over.undo(), 1);
        Check.due("the race is there", over.count(5), 0);
    }

    private static void enterFaulty() {
        BumpsChart x = with("8-7;6-5;4-3;2-1;x");
        Check.due("a fault at last", x.enter(), Check.IMPOSSIBLE);
        Check.due("none is made", x.count(6), 0);
        Check.due("none is out", x.crew(8, 4), 0);
        Check.due("no state is recorded", x.count(10), 2);
        Check.due("the text stays", x.clearText(), 17);
        BumpsChart over = Charts.over();
        Check.write(over, "1-0;");
        Check.due("no race", over.enter(), Check.IMPOSSIBLE);
    }
}
