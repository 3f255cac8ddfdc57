/** The boundary cases of the text, of what it tells, of promises 1 to 4: each on both sides. */
public final class TextBoundsTest {
    private static final Due DUE = new Due("text bounds");
    private static final String FIVE_PEOPLE = "p1 1;p2 2;p4 3;p8 4;p16 5;";
    private static final String SIX_PEOPLE = FIVE_PEOPLE + "p32 6;";

    public static void main(String[] args) {
        newObjectIsAsTold();
        newObjectHasNobodyAndThreePillows();
        letterIs0To255();
        textHas200LettersAtMost();
        badComesAheadOfFull();
        clearAnswersHowManyThereWere();
        clearChangesNothingElse();
        itemsAreCounted();
        textIsEmptyThen();
        allIsToldAnew();
        textEndsTooEarly();
        eachLetterWhereAnItemBegins();
        eachLetterWhereANumberStands();
        eachLetterWhereAnItemEnds();
        blanksBetweenTokens();
        itemsAreEndedBySemicolons();
        numbersGoTo127();
        numbersHaveNoZeroAhead();
        firstFaultCounts();
        faultChangesNothing();
        toldBounds();
        DUE.end();
    }

    private static void toldBounds() {
        pillowsAre1To6();
        threePillowsUnlessTold();
        pillowsAreToldFirstOfAll();
        sixPeopleAtMost();
        knowsIs0To127();
        talksIs0To10();
        thingsThatClashAre0To6();
        thingsThatClashAreUnlike();
        clashToldAgainIsAsItIs();
        personLiesOnHisPillowIfThereIsOne();
    }

    private static Story story() {
        return new Story(DUE, x -> { });
    }

    private static Story typed(String text) {
        return story().then(x -> Due.type(x, text));
    }

    private static void items(String text, int many) {
        typed(text).answers("court() of '" + text + "'", x -> x.court(), many);
    }

    private static void fault(String text, int place) {
        items(text, -10 - place);
    }

    private static void newObjectIsAsTold() {
        story().isAs("an empty text tells what a new object has", Story.told(DUE, ""));
        story().isAs("3 pillows, nobody", Story.told(DUE, "q3;"));
    }

    private static void newObjectHasNobodyAndThreePillows() {
        story().answers("people", x -> x.count(0), 0);
        story().answers("pillows", x -> x.count(1), 3);
        story().takes("new pillow(v, 0)", (x, v) -> x.pillow(v, 0), 0, 0, 2, 0);
        story().takes("new pillow(v, 1)", (x, v) -> x.pillow(v, 1), 0, 0, 2, 0);
        story().takes("new pillow(v, 2)", (x, v) -> x.pillow(v, 2), 0, 0, 2, 0);
        for (int what = 0; what < 4; what++) {
            int asked = what;
            story().changesNothing("new person(0, " + what + ")", x -> x.person(0, asked), -1);
        }
        story().changesNothing("new undo()", x -> x.undo(), -2);
        story().changesNothing("new back(0)", x -> x.back(0), -2);
        story().changesNothing("new back(1)", x -> x.back(1), -2);
    }

    private static void letterIs0To255() {
        story().takes("type(v)", (x, v) -> x.type(v), 0, 1, 255, 1);
        Story.busy(DUE).takes("type(v)", (x, v) -> x.type(v), 0, 6, 255, 6);
    }

    private static void textHas200LettersAtMost() {
        String most = "x0 1;".repeat(40);
        typed(most.substring(1)).answers("letter 200", x -> x.type(';'), 200);
        typed(most).changesNothing("letter 201", x -> x.type(';'), -3);
        typed(most).changesNothing("letter 201, a blank", x -> x.type(32), -3);
        items(most, 40);
        typed(most).then(x -> x.type('y')).answers("what is refused is not read", x -> x.court(), 40);
        typed(most).then(x -> x.clear()).answers("there is room behind clear()", x -> x.type('q'), 1);
        typed(most).then(x -> x.court()).answers("there is room behind court()", x -> x.type('q'), 1);
        typed(most.substring(1)).then(x -> x.court())
                .changesNothing("199 letters with a fault stay", x -> x.court(), -10);
    }

    private static void badComesAheadOfFull() {
        Story full = typed(" ".repeat(200));
        full.changesNothing("type(255) of a full text", x -> x.type(255), -3);
        full.changesNothing("type(256) of a full text", x -> x.type(256), -1);
        full.changesNothing("type(0) of a full text", x -> x.type(0), -3);
        full.changesNothing("type(-1) of a full text", x -> x.type(-1), -1);
    }

    private static void clearAnswersHowManyThereWere() {
        story().changesNothing("clear() of an empty text", x -> x.clear(), 0);
        typed("q").answers("clear() of a letter", x -> x.clear(), 1);
        typed(" ".repeat(199)).answers("clear() of 199", x -> x.clear(), 199);
        typed(" ".repeat(200)).answers("clear() of 200", x -> x.clear(), 200);
        typed(" ".repeat(200)).then(x -> x.type(32)).answers("201 typed", x -> x.clear(), 200);
        typed("q").then(x -> x.clear()).answers("clear() again", x -> x.clear(), 0);
    }

    private static void clearChangesNothingElse() {
        Story busy = Story.busy(DUE).then(x -> x.clear());
        busy.then(x -> Due.type(x, "q2;")).then(x -> x.clear()).isAs("what is cleared never was", busy);
        busy.then(x -> Due.type(x, "q2;p1")).isAs("but for the text", Story.busy(DUE));
    }

    private static void itemsAreCounted() {
        items("", 0);
        items(" ", 0);
        items(" ".repeat(200), 0);
        items("q1;", 1);
        items("x0 1;", 1);
        items("q1;p1 1;", 2);
        items("q1;" + SIX_PEOPLE + "x0 1;", 8);
        items("q1;" + "x0 1;".repeat(39), 40);
    }

    private static void textIsEmptyThen() {
        for (String text : new String[] {"", "   ", "q2;", "x0 1;".repeat(40)}) {
            Story read = typed(text).then(x -> x.court());
            read.answers("letters behind court()", x -> x.count(3), 0);
            read.answers("court() behind court() reads nothing", x -> x.court(), 0);
        }
        typed("q2;p1").then(x -> x.court()).answers("with a fault it is not", x -> x.count(3), 5);
    }

    /** Nothing of what was before is left but THE TRACE. */
    private static void allIsToldAnew() {
        for (String text : new String[] {"", "q1;", "p127 10;", "q6;p3 10;p3 10;x0 1;", Story.SIX}) {
            Story anew = Story.busy(DUE).then(x -> x.clear()).then(x -> Due.type(x, text)).then(x -> x.court());
            Story fresh = new Story(DUE, x -> x.rate(3, 0)).then(x -> Due.type(x, text)).then(x -> x.court());
            anew.isAs("'" + text + "' read anew", fresh);
            anew.isNotAs("'" + text + "' read anew", Story.busy(DUE));
            anew.changesNothing("undo() behind court()", x -> x.undo(), -2);
            anew.changesNothing("back(0) behind court()", x -> x.back(0), -2);
            anew.changesNothing("back(1) behind court()", x -> x.back(1), -2);
        }
    }

    /** Each beginning of a good text: at an item's end it is good, too, else it ends too early. */
    private static void textEndsTooEarly() {
        String text = " q 6 ;p 127 10 ; x0 6;";
        int whole = 0;
        for (int length = 0; length <= text.length(); length++) {
            String part = text.substring(0, length);
            boolean isWhole = part.isBlank() || part.trim().endsWith(";");
            whole += part.endsWith(";") ? 1 : 0;
            items(part, isWhole ? whole : -10 - length);
        }
        fault("q", 1);
        fault("q ", 2);
        fault("p1 1", 4);
        fault(" ".repeat(199) + "p", 200);
        fault(" ".repeat(198) + "q6", 200);
        items(" ".repeat(197) + "q6;", 1);
        fault("q" + " ".repeat(199), 200);
    }

    private static void eachLetterWhereAnItemBegins() {
        for (int letter = 0; letter < 256; letter++) {
            String sign = "" + (char) letter;
            if (letter == ' ') {
                items(sign, 0);
            } else {
                boolean begins = "qpx".contains(sign);
                fault(sign, begins ? 1 : 0);
                fault("x0 1;" + sign, letter == 'q' || !begins ? 5 : 6);
            }
        }
    }

    private static void eachLetterWhereANumberStands() {
        for (int letter = 0; letter < 256; letter++) {
            String text = "q" + (char) letter + ";";
            if (letter >= '1' && letter <= '6') {
                items(text, 1);
            } else {
                fault(text, letter == ' ' ? 2 : 1);
            }
        }
    }

    private static void eachLetterWhereAnItemEnds() {
        for (int letter = 0; letter < 256; letter++) {
            String text = "q1" + (char) letter + ";";
            if (letter == ' ') {
                items(text, 1);
            } else if (letter == ';') {
                fault(text, 3);
            } else {
                // A digit makes another number, which is too large.
                fault(text, letter >= '0' && letter <= '9' ? 1 : 2);
            }
        }
    }

    private static void blanksBetweenTokens() {
        items("q3;p7 10;x0 3;", 3);
        items(" q 3 ; p 7 10 ; x 0 3 ; ", 3);
        items("   q   3   ;   p   7   10   ;   x   0   3   ;   ", 3);
        fault("p710;", 1);
        fault("p71;", 3);
        fault("p7 1 0;", 5);
        fault("x03;", 1);
        fault("x30;", 1);
        fault("x3;", 2);
    }

    private static void itemsAreEndedBySemicolons() {
        fault("q3 p7 10;", 3);
        fault("p7 10 p7 10;", 6);
        fault("p7 10x0 1;", 5);
        fault("x0 1 x0 2;", 5);
        fault("x0 1 2;", 5);
        fault("q3;;", 3);
        fault("p7 10;;", 6);
        fault("x0 1; ;", 6);
        fault(";", 0);
    }

    private static void numbersGoTo127() {
        items("p127 1;", 1);
        fault("p128 1;", 1);
        fault("p129 1;", 1);
        fault("p200 1;", 1);
        fault("p999 1;", 1);
        fault("p1000 1;", 1);
        // Such as wrap around to small ones in 8, 16, 32 or 64 bits.
        fault("p257 1;", 1);
        fault("p65537 1;", 1);
        fault("p2147483648 1;", 1);
        fault("p4294967297 1;", 1);
        fault("p18446744073709551617 1;", 1);
        fault("p1 4294967297;", 3);
        fault("q4294967297;", 1);
        fault("x0 4294967297;", 3);
        fault("p" + "1".repeat(199), 1);
    }

    private static void numbersHaveNoZeroAhead() {
        items("p0 0;", 1);
        items("p10 10;", 1);
        items("p100 0;", 1);
        fault("p00 0;", 1);
        fault("p01 0;", 1);
        fault("p0127 0;", 1);
        fault("p1 00;", 3);
        fault("p1 01;", 3);
        fault("p1 010;", 3);
        fault("q01;", 1);
        fault("q00;", 1);
        fault("x00 1;", 1);
        fault("x01 2;", 1);
        fault("x0 01;", 3);
        fault("x0 0" + "0".repeat(190) + "1;", 3);
    }

    private static void firstFaultCounts() {
        fault("q7 y", 1);
        fault("q1 y 128", 3);
        fault("q1;q1;y", 3);
        fault("x1 1;;", 3);
        fault("p1 11;p128", 3);
        fault(SIX_PEOPLE + "p128 11;", SIX_PEOPLE.length());
        fault("y q", 0);
        fault("x0 1;p1", 7);
    }

    private static void faultChangesNothing() {
        String[] texts = {"q", "q1", "q0;", "q7;", "q128;", "q01;", "q1;q1;", "p1 1;q1;", "x0 1;q1;", "p128 1;",
            "p1 11;", SIX_PEOPLE + "p1 1;", "x7 1;", "x1 7;", "x1 1;", "q1;y", "q1;;", "p1 1;x0 1;p1 1"};
        int[] places = {1, 2, 1, 1, 1, 1, 3, 5, 5, 1, 3, SIX_PEOPLE.length(), 1, 3, 3, 3, 3, 14};
        for (int i = 0; i < texts.length; i++) {
            String text = texts[i];
            Story busy = Story.busy(DUE).then(x -> x.clear()).then(x -> Due.type(x, text));
            busy.changesNothing("court() of '" + text + "'", x -> x.court(), -10 - places[i]);
        }
        Story.busy(DUE).changesNothing("court() of 'q2;p1'", x -> x.court(), -15);
    }

    private static void pillowsAre1To6() {
        fault("q0;", 1);
        fault("q7;", 1);
        for (int many = 1; many <= 6; many++) {
            Story told = Story.told(DUE, "q" + many + ";");
            told.answers("pillows by q" + many, x -> x.count(1), many);
            told.takes("pillow(v, 0) by q" + many, (x, v) -> x.pillow(v, 0), 0, 0, many - 1, 0);
        }
    }

    private static void threePillowsUnlessTold() {
        for (String text : new String[] {"", SIX_PEOPLE, "x0 1;"}) {
            Story.told(DUE, text).answers("pillows by '" + text + "'", x -> x.count(1), 3);
            Story six = Story.told(DUE, "q6;").then(x -> Due.type(x, text)).then(x -> x.court());
            six.answers("pillows behind six", x -> x.count(1), 3);
        }
    }

    private static void pillowsAreToldFirstOfAll() {
        items("q2;x0 1;p1 1;", 3);
        fault("q2;q2;", 3);
        fault("p1 1;q2;", 5);
        fault("x0 1;q2;", 5);
        fault("x0 1;" + "p1 1;".repeat(6) + "q2;", 35);
    }

    private static void sixPeopleAtMost() {
        items(FIVE_PEOPLE, 5);
        items(SIX_PEOPLE, 6);
        fault(SIX_PEOPLE + "p1 1;", SIX_PEOPLE.length());
        fault(SIX_PEOPLE + "p", SIX_PEOPLE.length());
        fault(SIX_PEOPLE + "x0 1; p1 1;", SIX_PEOPLE.length() + 6);
        items(SIX_PEOPLE + "x0 1;", 7);
        Story six = Story.told(DUE, SIX_PEOPLE);
        six.answers("people", x -> x.count(0), 6);
        six.takes("person(v, 0)", (x, v) -> x.person(v, 0), 0, 1, 5, 32);
        six.takes("person(v, 1)", (x, v) -> x.person(v, 1), 0, 1, 5, 6);
        for (int many = 1; many < 6; many++) {
            Story told = Story.told(DUE, "p5 10;".repeat(many));
            told.answers("people", x -> x.count(0), many);
            told.takes("person(v, 0) of " + many, (x, v) -> x.person(v, 0), 0, 5, many - 1, 5);
        }
    }

    private static void knowsIs0To127() {
        for (int known = 0; known <= 127; known++) {
            Story.told(DUE, "p" + known + " 1;").answers("knows", x -> x.person(0, 0), known);
        }
        fault("p128 1;", 1);
        fault("p-1 1;", 1);
    }

    private static void talksIs0To10() {
        for (int talks = 0; talks <= 10; talks++) {
            Story.told(DUE, "p1 " + talks + ";").answers("talks", x -> x.person(0, 1), talks);
        }
        fault("p1 11;", 3);
        fault("p1 127;", 3);
        fault("p1 128;", 3);
        fault("p1 -1;", 3);
    }

    private static void thingsThatClashAre0To6() {
        for (int a = 0; a <= 7; a++) {
            for (int b = 0; b <= 7; b++) {
                String text = "x" + a + " " + b + ";";
                if (a == 7) {
                    fault(text, 1);
                } else if (b == 7 || a == b) {
                    fault(text, 3);
                } else {
                    int one = a;
                    int other = b;
                    Story told = Story.told(DUE, text);
                    told.takes("clashes(v)", (x, v) -> x.clashes(v), 0, bit(0, a, b), 6, bit(6, a, b));
                    told.answers("clashes(" + a + ")", x -> x.clashes(one), 1 << other);
                    told.answers("clashes(" + b + ")", x -> x.clashes(other), 1 << one);
                }
            }
        }
    }

    private static int bit(int t, int a, int b) {
        return t == a ? 1 << b : t == b ? 1 << a : 0;
    }

    private static void thingsThatClashAreUnlike() {
        for (int t = 0; t < 7; t++) {
            fault("x" + t + " " + t + ";", 3);
            fault("x " + t + "  " + t + " ;", 5);
            items("x" + t + " " + (t + 1) % 7 + ";", 1);
        }
    }

    private static void clashToldAgainIsAsItIs() {
        Story once = Story.told(DUE, "q2;p127 10;x0 6;").then(x -> x.night(0));
        Story.told(DUE, "q2;p127 10;x0 6;x0 6;").then(x -> x.night(0)).isAs("told twice", once);
        Story.told(DUE, "q2;p127 10;x0 6;x6 0;").then(x -> x.night(0)).isAs("told the other way", once);
        items("x0 6;x0 6;x6 0;", 3);
    }

    private static void personLiesOnHisPillowIfThereIsOne() {
        for (int many = 1; many <= 6; many++) {
            PillowCourt x = Story.told(DUE, "q" + many + ";" + SIX_PEOPLE).court();
            for (int k = 0; k < 6; k++) {
                DUE.is("where " + k + " lies", x.person(k, 2), k < many ? k : -9);
                DUE.is("who lies on " + k, x.pillow(k, 1), k < many ? 1 << k : -1);
            }
        }
        PillowCourt y = Story.told(DUE, "q6;p1 1;p1 1;").court();
        DUE.is("who lies on 1", y.pillow(1, 1), 2);
        DUE.is("nobody lies on 2", y.pillow(2, 1), 0);
    }
}
