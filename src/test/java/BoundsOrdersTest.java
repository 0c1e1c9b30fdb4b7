/** The boundary cases of section 2: the tape, the text, its faults, and what a village wants (promises 6 to 8). */
public final class BoundsOrdersTest {
    private static final int NONE = Bounds.NONE;
    private static final String[] FACTS = {"day", "people", "beasts", "days", "full", "dry"};

    public static void main(String[] args) {
        signsOfTheTape();
        bytesInTheirOrder();
        sixHundredSigns();
        beyondSixHundred();
        readingTakesTheTape();
        emptyText();
        oneTextForAnother();
        litresOfALine();
        digitsOfANumber();
        lettersOfAWord();
        signsThatAreNone();
        lettersBesideDigits();
        blanks();
        placesOfTheEnd();
        whereTokensStand();
        sixteenLines();
        fiveWithinOneAnother();
        firstTokenAndLeastKind();
        longestText();
        manyTexts();
        usualLitres();
        firstLineThatHolds();
        notZero();
        lessAndEqual();
        eachFactByItself();
        fullInHundredths();
        dayOfTheText();
        daysInARow();
        dryOnTheDayAhead();
        mostWanted();
        Check.end();
    }

    private static void due(String what, long got, long want) {
        Check.due(what, got, want);
    }

    private static void fault(String text, int kind, int place) {
        due("7: fault of \"" + text + "\"", Check.text(new WaterCarts(), text), kind + 16 * place);
    }

    private static void right(String text, int lines) {
        WaterCarts x = new WaterCarts();
        due("7: fault of \"" + text + "\"", Check.text(x, text), 0);
        due("7: lines of \"" + text + "\"", x.count(8), lines);
    }

    /** Every byte by itself, in the highest and in the lowest place of each of the three. */
    private static void signsOfTheTape() {
        for (long sign = 0; sign <= 255; sign++) {
            int stays = sign == 10 || sign >= 32 && sign <= 126 ? 1 : 0;
            due("6: sign " + sign + " highest in a", new WaterCarts().feed(sign << 56, 0, 0), stays);
            due("6: sign " + sign + " lowest in a", new WaterCarts().feed(sign, 0, 0), stays);
            due("6: sign " + sign + " highest in b", new WaterCarts().feed(0, sign << 56, 0), stays);
            due("6: sign " + sign + " lowest in b", new WaterCarts().feed(0, sign, 0), stays);
            due("6: sign " + sign + " highest in c", new WaterCarts().feed(0, 0, sign << 56), stays);
            due("6: sign " + sign + " lowest in c", new WaterCarts().feed(0, 0, sign), stays);
            long eight = sign * 0x0101010101010101L;
            due("6: sign " + sign + " 24 times", new WaterCarts().feed(eight, eight, eight), 24 * stays);
        }
        due("6: all bits", new WaterCarts().feed(-1L, -1L, -1L), 0);
        due("6: the least long", new WaterCarts().feed(Long.MIN_VALUE, Long.MIN_VALUE, Long.MIN_VALUE), 0);
        due("6: the largest long", new WaterCarts().feed(Long.MAX_VALUE, Long.MAX_VALUE, Long.MAX_VALUE), 0);
    }

    private static void bytesInTheirOrder() {
        WaterCarts x = new WaterCarts();
        x.village(1, 0, 100, 0);
        due("6: 24 signs", x.feed(Check.eight("head 12 ", 0), Check.eight("when day", 0), Check.eight(" = 0001;", 0)), 24);
        due("6: a, b, c, the highest first", x.text(), 0);
        due("6: as they stand", x.want(0), 12);
        due("6: one a call", feedOneByOne(x, "head 34 when 1;"), 15);
        due("6: one behind the other", x.text(), 0);
        due("6: as they came", x.want(0), 34);
        due("6: what is left out parts nothing", Check.feed(x, "he\u0001ad 5\u00ff6 wh\ten 1;"), 15);
        due("6: and is not read", x.text(), 0);
        due("6: the digits are one number", x.want(0), 56);
    }

    private static int feedOneByOne(WaterCarts x, String signs) {
        int there = 0;
        for (int i = 0; i < signs.length(); i++) {
            there = x.feed(0, signs.charAt(i), 0);
        }
        return there;
    }

    private static WaterCarts withBlanks(int blanks) {
        WaterCarts x = new WaterCarts();
        x.village(1, 0, 100, 0);
        Check.feed(x, " ".repeat(blanks));
        due("22: signs of " + blanks + " blanks", x.count(9), blanks);
        return x;
    }

    private static void sixHundredSigns() {
        due("6: from 0", withBlanks(0).feed(0, 0, 32), 1);
        due("6: from 598", withBlanks(598).feed(0, 0, 32), 599);
        due("6: from 599", withBlanks(599).feed(0, 0, 32), 600);
        due("6: from 600", withBlanks(600).feed(0, 0, 32), 600);
        long eight = 0x2020202020202020L;
        for (int there = 570; there <= 600; there++) {
            WaterCarts x = withBlanks(there);
            due("6: 24 from " + there, x.feed(eight, eight, eight), Math.min(600, there + 24));
            due("6: told by count, from " + there, x.count(9), Math.min(600, there + 24));
        }
        WaterCarts full = withBlanks(600);
        due("6: signs that are left out on a full tape", full.feed(-1, 0, 9), 600);
        due("6: all blanks are a text", full.text(), 0);
        due("6: there is room again", full.feed(eight, 0, 0), 8);
    }

    private static void beyondSixHundred() {
        WaterCarts x = withBlanks(586);
        due("6: 14 signs up to 600", Check.feed(x, "head 7 when 1;"), 600);
        due("6: what is beyond is left out", Check.feed(x, "head 8 when 1;"), 600);
        due("6: and not read", x.text(), 0);
        due("6: one line", x.count(8), 1);
        due("6: the first", x.want(0), 7);
        WaterCarts y = withBlanks(587);
        due("6: the 14th is the 601st", Check.feed(y, "head 7 when 1;"), 600);
        due("6: the end is at 600", y.text(), 1 + 16 * 600);
        WaterCarts z = withBlanks(599);
        due("6: of more the first stays", Check.feed(z, "~;"), 600);
        due("6: at 599", z.text(), 1 + 16 * 599);
    }

    private static void readingTakesTheTape() {
        WaterCarts x = new WaterCarts();
        Check.feed(x, "head 1 when 1;");
        due("7: ahead of reading", x.count(9), 14);
        due("7: a right one", x.text(), 0);
        due("7: the tape is empty then", x.count(9), 0);
        Check.feed(x, "head 1 when 1");
        due("7: a wrong one", x.text(), 1 + 16 * 13);
        due("7: the tape is empty, too", x.count(9), 0);
        due("7: the next begins anew", Check.feed(x, ";"), 1);
        due("7: at place 0", x.text(), 1);
        due("7: places count from 0 each time", x.text(), 0);
    }

    private static void emptyText() {
        right("", 0);
        right(" ", 0);
        right("\n", 0);
        right(" \n\n  \n", 0);
        WaterCarts x = new WaterCarts();
        due("7: nothing fed", x.text(), 0);
        due("7: nothing fed, again", x.text(), 0);
        due("7: only signs that are left out", x.feed(-1, 0, 1), 0);
        due("7: are none", x.text(), 0);
    }

    private static void oneTextForAnother() {
        WaterCarts x = new WaterCarts();
        x.village(1, 1, 100, 0);
        due("7: two lines", Check.text(x, "head 3 when 1; beast 4 when 1;"), 0);
        due("7: both stand", x.want(0), 7);
        due("7: one line", Check.text(x, "head 5 when 1;"), 0);
        due("7: nothing of the old one stays", x.want(0), 25);
        due("7: one line is told", x.count(8), 1);
        due("7: a fault in the second line", Check.text(x, "head 6 when 1; beast 100 when 1;"), 4 + 16 * 21);
        due("7: nothing of it stands", x.want(0), 25);
        due("7: one line is told still", x.count(8), 1);
        due("7: an empty one", x.text(), 0);
        due("7: takes all away", x.want(0), 30);
        due("7: no line is told", x.count(8), 0);
        due("7: a fault where no text was", Check.text(x, "head 6 when 1; head"), 1 + 16 * 19);
        due("7: as usual still", x.want(0), 30);
    }

    private static void litresOfALine() {
        for (String kind : new String[] {"head", "beast"}) {
            int place = kind.length() + 1;
            for (String litres : new String[] {"0", "1", "9", "00", "98", "99", "000", "099", "0000", "0099"}) {
                WaterCarts x = new WaterCarts();
                x.village(1, 1, 100, 0);
                due("7: " + kind + " " + litres, Check.text(x, kind + " " + litres + " when 1;"), 0);
                int usual = kind.equals("head") ? 20 : 10;
                due("8: want of " + kind + " " + litres, x.want(0), Integer.parseInt(litres) + usual);
            }
            for (String litres : new String[] {"100", "101", "0100", "999", "1000", "9999"}) {
                fault(kind + " " + litres + " when 1;", 4, place);
                fault(kind + " " + litres, 4, place);
            }
            for (String litres : new String[] {"00000", "00099", "10000", "99999", "123456789012345678901234567890"}) {
                fault(kind + " " + litres + " when 1;", 1, place);
            }
            fault(kind + " -1 when 1;", 1, place);
            fault(kind + " +1 when 1;", 1, place);
            fault(kind + " day when 1;", 1, place);
            fault(kind + " (1) when 1;", 1, place);
            fault(kind + " when 1;", 1, place);
        }
    }

    private static int wanted(String when) {
        WaterCarts x = new WaterCarts();
        x.village(1, 0, 100, 0);
        due("8: fault of " + when, Check.text(x, "head 1 when " + when + ";"), 0);
        return x.want(0);
    }

    private static void digitsOfANumber() {
        right("head 1 when 1;", 1);
        right("head 1 when 12;", 1);
        right("head 1 when 123;", 1);
        right("head 1 when 1234;", 1);
        fault("head 1 when 12345;", 1, 12);
        fault("head 1 when 123456;", 1, 12);
        fault("head 1 when 00000;", 1, 12);
        fault("head 1 when 1+12345;", 1, 14);
        fault("head 1 when " + "9".repeat(588), 1, 12);
        due("8: 9999 is 9999", wanted("9998 + 1 = 9999"), 1);
        due("8: 0000 is 0", wanted("0000"), 10);
        due("8: 0010 is 10", wanted("0010 = 10"), 1);
        due("8: each digit", wanted("1234 = 1000 + 200 + 30 + 4 and 5678 = 5000 + 600 + 70 + 8 and 0009 = 9"), 1);
    }

    /** All words that may stand have fewer than 8 letters, so 8 and 9 are both wrong, at the first of them. */
    private static void lettersOfAWord() {
        fault("abcdefgh 1 when 1;", 1, 0);
        fault("abcdefghi 1 when 1;", 1, 0);
        fault("head 1 when abcdefgh;", 1, 12);
        fault("head 1 when abcdefghi;", 1, 12);
        fault("head 1 when " + "a".repeat(588), 1, 12);
        fault("headhead 1 when 1;", 1, 0);
        fault("headheadhead 1 when 1;", 1, 0);
        fault("head 1 whenwhenwhen 1;", 1, 7);
        fault("head 1 when daydayday;", 1, 12);
        String[] wrong = {"hea", "headx", "heads", "xhead", "beas", "beasts", "beastx", "da", "whe", "a", "z", "day"};
        for (String word : wrong) {
            fault(word + " 1 when 1;", 1, 0);
        }
        for (String word : new String[] {"whe", "whenx", "and", "head", "then", "if"}) {
            fault("head 1 " + word + " 1;", 1, 7);
        }
        String[] none = {"da", "dayss", "peopl", "peoples", "beast", "beastss", "ful", "fulls", "dr", "drys", "an", "head", "when"};
        for (String word : none) {
            fault("head 1 when " + word + ";", 1, 12);
        }
        for (String word : new String[] {"an", "ands", "or", "not"}) {
            fault("head 1 when 1 " + word + " 1;", 1, 14);
        }
        for (char letter = 'a'; letter <= 'z'; letter++) {
            fault("head" + letter + " 1 when 1;", 1, 0);
            fault(letter + "head 1 when 1;", 1, 0);
            fault("head 1 when" + letter + " 1;", 1, 7);
            fault("head 1 when dry" + letter + ";", 1, 12);
        }
        for (String word : FACTS) {
            right("head 1 when " + word + ";", 1);
            right("beast 1 when " + word + ";", 1);
            fault("head 1 when " + word.toUpperCase() + ";", 1, 12);
        }
        fault("Head 1 when 1;", 1, 0);
        fault("hEAD 1 when 1;", 1, 0);
        fault("head 1 When 1;", 1, 7);
    }

    private static void signsThatAreNone() {
        for (char sign = 33; sign <= 126; sign++) {
            boolean part = sign >= '0' && sign <= '9';
            boolean between = sign == '<' || sign == '=' || sign == '+' || sign == '-';
            String text = "head 1 when 1 " + sign + " 1;";
            if (between) {
                right(text, 1);
            } else {
                fault(text, 1, sign == ';' ? 16 : 14);
            }
            if (part) {
                right("head 1 when " + sign + ";", 1);
            } else {
                fault("head 1 when " + sign + ";", 1, sign == '(' ? 13 : 12);
            }
            fault("" + sign, 1, 0);
            fault("head " + sign, 1, part ? 6 : 5);
            fault("head 1 " + sign, 1, 7);
            if (sign != ';') {
                fault("head 1 when 1" + sign, 1, part || between ? 14 : 13);
            }
        }
    }

    private static void lettersBesideDigits() {
        right("head5when 1;", 1);
        right("head 5when 1and 1;", 1);
        right("head5when1and1;", 1);
        right("head5when1and day=1;beast9when(1)and(2);", 2);
        fault("head 5 when day1;", 1, 15);
        fault("head 5 when 1day;", 1, 13);
        fault("head5whenand1;", 1, 5);
        fault("head 5 whenday;", 1, 7);
        fault("head 5 when dayand 1;", 1, 12);
        right("head 5 when 1234and 1;", 1);
        fault("head 5 when 12345and 1;", 1, 12);
        fault("head 5 when 1 2;", 1, 14);
        fault("head 5 when da y;", 1, 12);
        fault("he ad 5 when 1;", 1, 0);
        right("head 5 when(day)<(1);", 1);
    }

    private static void blanks() {
        right(" head 5 when 1 ; ", 1);
        right("\nhead\n5\nwhen\n1\n;\n", 1);
        right("head     5 \n \n when(  1\n)  ;", 1);
        right("head 5 when day<people+1-(2=3)and 4;", 1);
        right("head 5 when day < people + 1 - ( 2 = 3 ) and 4 ;", 1);
        fault("  x", 1, 2);
        fault("\n\n\n;", 1, 3);
        fault("head\n\n100", 4, 6);
    }

    /** The end is a token, too: it is wrong at the text's length, with the blanks behind. */
    private static void placesOfTheEnd() {
        String[] parts = {"head", "head 5", "head 5 when", "head 5 when 1", "head 5 when (", "head 5 when (1",
            "head 5 when (1)", "head 5 when 1 +", "head 5 when 1 -", "head 5 when 1 <", "head 5 when 1 =",
            "head 5 when 1 and", "head 5 when 1;head", "beast", "beast 5"};
        for (String part : parts) {
            fault(part, 1, part.length());
            fault(part + " ", 1, part.length() + 1);
            fault(part + "\n \n", 1, part.length() + 3);
            fault(part + " ".repeat(600 - part.length()), 1, 600);
        }
        right("head 5 when 1;", 1);
        right("head 5 when 1; ", 1);
    }

    private static void whereTokensStand() {
        fault("5 head when 1;", 1, 0);
        fault("when 1;", 1, 0);
        fault("(head 5 when 1);", 1, 0);
        fault("head 5 5 when 1;", 1, 7);
        fault("head 5 (when 1);", 1, 7);
        fault("head 5 when when 1;", 1, 12);
        fault("head 5 when ;", 1, 12);
        fault("head 5 when );", 1, 12);
        fault("head 5 when ();", 1, 13);
        fault("head 5 when < 1;", 1, 12);
        fault("head 5 when = 1;", 1, 12);
        fault("head 5 when + 1;", 1, 12);
        fault("head 5 when - 1;", 1, 12);
        fault("head 5 when and 1;", 1, 12);
        fault("head 5 when 1 + - 1;", 1, 16);
        fault("head 5 when 1 < = 1;", 1, 16);
        fault("head 5 when 1 and and 1;", 1, 18);
        fault("head 5 when 1 (2);", 1, 14);
        fault("head 5 when (1)(2);", 1, 15);
        fault("head 5 when (1) 2;", 1, 16);
        fault("head 5 when (1;", 1, 14);
        fault("head 5 when 1);", 1, 13);
        fault("head 5 when (1));", 1, 15);
        fault("head 5 when ((1);", 1, 16);
        fault("head 5 when 1 < 2 < 3;", 1, 18);
        fault("head 5 when 1 = 2 = 3;", 1, 18);
        fault("head 5 when 1 = 2 < 3;", 1, 18);
        fault("head 5 when (1 < 2 < 3);", 1, 19);
        right("head 5 when (1 < 2) < 3;", 1);
        right("head 5 when 1 < (2 < 3);", 1);
        right("head 5 when 1 < 2 and 2 < 3;", 1);
        right("head 5 when 1 + 2 < 3 + 4 and 5 - 6 = 7 - 8 and 9;", 1);
        fault("head 5 when 1; 5", 1, 15);
        fault("head 5 when 1 head 5 when 1;", 1, 14);
        fault("head 5 when 1;;", 1, 14);
        fault("; head 5 when 1;", 1, 0);
    }

    private static String lines(int count) {
        StringBuilder text = new StringBuilder();
        for (int i = 0; i < count; i++) {
            text.append(i % 3 == 0 ? "beast " : "head ").append(i).append(" when ").append(i).append(';');
        }
        return text.toString();
    }

    private static void sixteenLines() {
        for (int count = 0; count <= 16; count++) {
            right(lines(count), count);
        }
        String full = lines(16);
        fault(lines(17), 5, full.length());
        fault(lines(18), 5, full.length());
        fault(full + "head", 5, full.length());
        fault(full + " \n beast 1 when 1;", 5, full.length() + 3);
        fault(full + "head 100 when 1;", 5, full.length());
        fault(full + "head x", 5, full.length());
        right(full + " \n ", 16);
        fault(full + ";", 1, full.length());
        fault(full + "heads 1 when 1;", 1, full.length());
        fault(full + " 5", 1, full.length() + 1);
        fault(full + "~", 1, full.length());
        fault(lines(15) + "x" + lines(1), 1, lines(15).length());
        WaterCarts x = new WaterCarts();
        x.village(1, 0, 100, 0);
        Check.text(x, "head 7 when 1;");
        due("7: a 17th line", Check.text(x, "head 1 when 1;".repeat(17)), 5 + 16 * 224);
        due("7: none of the 17 stands", x.count(8), 1);
        due("7: none of them is asked", x.want(0), 7);
        due("7: 16 lines", Check.text(x, "head 1 when 0;".repeat(15) + "head 8 when 1;"), 0);
        due("8: the 16th is asked", x.want(0), 8);
    }

    private static void fiveWithinOneAnother() {
        for (int depth = 0; depth <= 4; depth++) {
            right("head 1 when " + "(".repeat(depth) + "1" + ")".repeat(depth) + ";", 1);
            right("head 1 when 1 = " + "(".repeat(depth) + "day" + ")".repeat(depth) + ";", 1);
        }
        String five = "head 1 when (((((";
        fault(five + "1)))));", 5, 17);
        fault(five + "9999)))));", 5, 17);
        for (String fact : FACTS) {
            fault(five + fact + ")))));", 5, 17);
        }
        fault(five + "(1))))));", 5, 17);
        fault(five + "  1)))));", 5, 19);
        fault(five + "12345)))));", 1, 17);
        fault(five + "daysx)))));", 1, 17);
        fault(five + ")))));", 1, 17);
        fault(five + "+", 1, 17);
        fault(five + "~", 1, 17);
        fault(five, 1, 17);
        fault("head 1 when ((((1 + (2)))));", 5, 21);
        fault("head 1 when ((((1 < (2)))));", 5, 21);
        fault("head 1 when ((((1 and (2)))));", 5, 23);
        fault("head 1 when 1 and 2 < 3 + ((((((", 5, 31);
        right("head 1 when ((((1)))) + ((((2)))) < ((((3)))) and ((((4))));", 1);
        right("head 1 when ((((1 + 2 < 3 and 4) + 5) = 6) and 7);", 1);
        right("head 1 when ((((1))));".repeat(2), 2);
    }

    private static void firstTokenAndLeastKind() {
        fault("head 100 wen 1;", 4, 5);
        fault("head x 100", 1, 5);
        fault("head 100 when ((((((", 4, 5);
        fault("head 1 when ((((((1 x", 5, 17);
        fault("head 1 when x ((((((", 1, 12);
        fault("head 1 when 1; head 100 when ~;", 4, 20);
        fault("head 1 when ~; head 100 when 1;", 1, 12);
        fault("~ head 100", 1, 0);
    }

    private static void longestText() {
        String ones = "head 1 when 1" + "+1".repeat(293) + ";";
        due("7: 600 signs are fed", ones.length(), 600);
        right(ones, 1);
        right("head 1 when 1" + " and 1".repeat(97) + "    ;", 1);
        right("head 1 when 1" + "<1 and 1".repeat(73) + "  ;", 1);
        right("head 1 when (1)" + "-(1)".repeat(146) + ";", 1);
        due("8: a long sum", wanted("9999" + "+9999".repeat(110) + "=9999" + "-1".repeat(3)), 10);
        due("8: a sum of many", wanted("1" + "+1".repeat(280) + "=281"), 1);
        due("8: what is taken off many times", wanted("280" + "-1".repeat(280)), 10);
        due("8: sums within sums", wanted("1+(2+(3+(4+(5))))=15"), 1);
        due("8: as many open at once as may be", wanted("2 and 4<4+(".repeat(4) + "2 and 3<4-0))))"), 1);
        due("8: the innermost counts", wanted("2 and 4<4+(".repeat(4) + "2 and 3<4-1))))"), 10);
        fault(ones.substring(0, 599) + "+", 1, 600);
        fault(" ".repeat(596) + "head", 1, 600);
        fault("~".repeat(600), 1, 0);
        fault("(".repeat(600), 1, 0);
    }

    /** No text is in the way of those behind it, however long they are. */
    private static void manyTexts() {
        WaterCarts x = village(1, 0);
        for (int i = 1; i <= 7; i++) {
            due("7: a long text, " + i, Check.text(x, "head 1" + i + " when 1" + "+1".repeat(290) + "-290;"), 0);
            due("8: its want, " + i, x.want(0), 10 + i);
            due("7: one with a fault, " + i, Check.text(x, "head 2 when 1" + "+1".repeat(293)), 1 + 16 * 599);
            due("8: the same want, " + i, x.want(0), 10 + i);
        }
    }

    private static WaterCarts village(int people, int beasts) {
        WaterCarts x = new WaterCarts();
        x.village(people, beasts, 100000, 0);
        return x;
    }

    private static int want(int people, int beasts, String text) {
        WaterCarts x = village(people, beasts);
        due("8: fault of \"" + text + "\"", Check.text(x, text), 0);
        return x.want(0);
    }

    private static void usualLitres() {
        due("8: 10 a head without a line", want(1, 0, ""), 10);
        due("8: 20 a beast without a line", want(1, 1, ""), 30);
        due("8: no beast line: 20", want(3, 2, "head 1 when 1;"), 3 + 40);
        due("8: no head line: 10", want(3, 2, "beast 1 when 1;"), 30 + 2);
        due("8: no line that holds", want(3, 2, "head 1 when 0; beast 1 when 0;"), 70);
        due("8: 0 litres are not as usual", want(3, 2, "head 0 when 1; beast 0 when 1;"), 0);
        due("8: 99 litres", want(3, 2, "head 99 when 1; beast 99 when 1;"), 495);
        due("8: no beasts want nothing", want(3, 0, "beast 99 when 1;"), 30);
    }

    private static void firstLineThatHolds() {
        due("8: the first", want(1, 0, "head 1 when 1; head 2 when 1;"), 1);
        due("8: the first that holds", want(1, 0, "head 1 when 0; head 2 when 1; head 3 when 1;"), 2);
        due("8: the last", want(1, 0, "head 1 when 0; head 2 when 0; head 3 when 1;"), 3);
        due("8: a beast line between", want(1, 1, "beast 5 when 1; head 1 when 1; beast 6 when 1;"), 6);
        due("8: a first one of 0 litres", want(1, 0, "head 0 when 1; head 2 when 1;"), 0);
        due("8: a beast line holds for no head", want(1, 1, "beast 5 when 1;"), 15);
    }

    private static void notZero() {
        due("8: 1", wanted("1"), 1);
        due("8: 0", wanted("0"), 10);
        due("8: below 0", wanted("0 - 1"), 1);
        due("8: 9999", wanted("9999"), 1);
        due("8: 1 - 1", wanted("1 - 1"), 10);
        due("8: 0 and 0", wanted("0 and 0"), 10);
        due("8: 0 and 1", wanted("0 and 1"), 10);
        due("8: 1 and 0", wanted("1 and 0"), 10);
        due("8: 1 and 1", wanted("1 and 1"), 1);
        due("8: below 0 and below 0", wanted("(0 - 1) and (0 - 1)"), 1);
        due("8: and tells 1, not more", wanted("(2 and 3) = 1"), 1);
        due("8: and tells 1 of below 0", wanted("(0 - 2 and 3) = 1"), 1);
        due("8: and tells 0", wanted("(2 and 0) = 0"), 1);
        due("8: three, the last 0", wanted("1 and 1 and 0"), 10);
        due("8: three, the first 0", wanted("0 and 1 and 1"), 10);
        due("8: three, the second 0", wanted("1 and 0 and 1"), 10);
        due("8: three", wanted("1 and 1 and 1"), 1);
    }

    private static void lessAndEqual() {
        due("8: 1 < 2", wanted("1 < 2"), 1);
        due("8: 2 < 2", wanted("2 < 2"), 10);
        due("8: 3 < 2", wanted("3 < 2"), 10);
        due("8: 1 = 2", wanted("1 = 2"), 10);
        due("8: 2 = 2", wanted("2 = 2"), 1);
        due("8: 3 = 2", wanted("3 = 2"), 10);
        due("8: < tells 1", wanted("(1 < 9) = 1"), 1);
        due("8: < tells 0", wanted("(9 < 1) = 0"), 1);
        due("8: = tells 1", wanted("(9 = 9) = 1"), 1);
        due("8: = tells 0", wanted("(9 = 1) = 0"), 1);
        due("8: below 0 is less", wanted("0 - 1 < 0"), 1);
        due("8: 0 is not less", wanted("0 < 0 - 1"), 10);
        due("8: below 0 is equal", wanted("1 - 3 = 2 - 4"), 1);
        due("8: from the left", wanted("10 - 4 - 3 = 3"), 1);
        due("8: + and - from the left", wanted("10 - 4 + 3 = 9"), 1);
        due("8: a bracket first", wanted("10 - (4 + 3) = 3"), 1);
        due("8: sums ahead of <", wanted("1 + 1 < 2 + 1"), 1);
        due("8: < ahead of and", wanted("0 and 0 < 1"), 10);
        due("8: people of 2000 and 2000 beasts", want(2000, 2000, "head 0 when people + beasts = 4000; beast 0 when people = 2000;"), 0);
        due("8: no beasts", want(7, 0, "head 0 when beasts = 0;"), 0);
    }

    /** Six facts with six values, each told by its own name alone. */
    private static void eachFactByItself() {
        int[] values = {3, 40, 5, 2, 0, 1};
        for (int fact = 0; fact < 6; fact++) {
            for (int value : values) {
                WaterCarts x = new WaterCarts();
                x.village(40, 5, 100, 0);
                x.days(2);
                Check.text(x, "head 0 when 1; beast 0 when " + FACTS[fact] + " = " + value + ";");
                due("8: " + FACTS[fact] + " is " + value, x.want(0), value == values[fact] ? 0 : 100);
            }
        }
    }

    private static int fullOf(int tank, int in) {
        for (int full = 0; full <= 101; full++) {
            WaterCarts x = new WaterCarts();
            x.village(1, 0, tank, in);
            Check.text(x, "head 1 when full = " + full + ";");
            if (x.want(0) == 1) {
                return full;
            }
        }
        return NONE;
    }

    private static void fullInHundredths() {
        due("8: empty", fullOf(100, 0), 0);
        due("8: full", fullOf(100, 100), 100);
        due("8: one of a hundred", fullOf(100, 1), 1);
        due("8: 99 of a hundred", fullOf(100, 99), 99);
        due("8: a tank of 1, empty", fullOf(1, 0), 0);
        due("8: a tank of 1, full", fullOf(1, 1), 100);
        due("8: a tank of 3, cut", fullOf(3, 2), 66);
        due("8: the largest, full", fullOf(100000, 100000), 100);
        due("8: the largest, one less", fullOf(100000, 99999), 99);
        due("8: the largest, just 99", fullOf(100000, 99000), 99);
        due("8: the largest, not 99", fullOf(100000, 98999), 98);
        due("8: the largest, 1", fullOf(100000, 1000), 1);
        due("8: the largest, less than 1", fullOf(100000, 999), 0);
    }

    private static void dayOfTheText() {
        WaterCarts x = village(1, 0);
        Check.text(x, "head 1 when day = 1; head 2 when day = 2; head 3 when day = 31; head 4 when day = 399; head 5 when day = 400;");
        due("8: the day that comes is 1", x.want(0), 1);
        x.days(1);
        due("8: then 2", x.want(0), 2);
        x.days(1);
        due("8: then 3", x.want(0), 10);
        x.days(28);
        due("8: 31 at NOW 30", x.want(0), 3);
        for (int i = 0; i < 12; i++) {
            x.days(30);
        }
        x.days(8);
        due("8: 399 at NOW 398", x.want(0), 4);
        x.days(1);
        due("8: 400 at NOW 399", x.want(0), 5);
    }

    private static void daysInARow() {
        WaterCarts x = new WaterCarts();
        x.village(1, 0, 100, 10);
        Check.text(x, "head 1 when days = 1; head 12 when days = 2; head 3 when days = 3; head 4 when 3 < days;");
        due("8: not dry yet", x.want(0), 10);
        x.days(1);
        due("8: the tank had it", Bounds.look(x, 0, 5), 0);
        due("8: still not dry", x.want(0), 10);
        x.days(1);
        due("8: dry once", x.want(0), 1);
        x.days(1);
        due("8: dry twice", x.want(0), 12);
        x.days(1);
        due("8: dry three times", x.want(0), 3);
        x.days(1);
        due("8: dry four times", x.want(0), 4);
        x.bore(0, 1, 1);
        x.drill(0, 4);
        x.days(1);
        due("8: no longer", x.want(0), 10);
        x.days(1);
        due("8: dry once again", x.want(0), 1);
    }

    /** On the day itself the villages by their numbers all go by the day ahead. */
    private static void dryOnTheDayAhead() {
        WaterCarts x = new WaterCarts();
        for (int i = 0; i < 12; i++) {
            x.village(1, 0, 1000, i < 6 ? 0 : 10);
        }
        Check.text(x, "head 1 when dry = 6; head 2 when dry = 12;");
        due("8: none was dry", x.want(11), 10);
        x.days(1);
        due("8: six are dry", x.count(4), 6);
        due("8: none of the six is told on that day", Bounds.look(x, 11, 4), 10);
        due("8: six", x.want(0), 1);
        due("8: six, of the last, too", x.want(11), 1);
        x.days(1);
        due("8: twelve are dry", x.count(4), 12);
        due("8: twelve", x.want(0), 2);
        due("8: twelve, of the last, too", x.want(11), 2);
        x.days(1);
        due("8: twelve again", x.want(11), 2);
    }

    private static void mostWanted() {
        due("8: the most", want(2000, 2000, "head 99 when 1; beast 99 when 1;"), 396000);
        due("8: the most as usual", want(2000, 2000, ""), 60000);
        due("8: the least", want(2000, 2000, "head 0 when 1; beast 0 when 1;"), 0);
        WaterCarts x = village(2000, 2000);
        Check.text(x, "head 99 when 1; beast 99 when 1;");
        x.days(1);
        due("8: more than any tank has", Bounds.look(x, 0, 5), 1);
    }
}
