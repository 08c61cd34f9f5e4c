/** Terms 1 (texts) and promises 5 to 7: each sentence that names an edge, by itself. */
public final class EdgesOfTextsTest {
    private static final Check CHECK = new Check("EdgesOfTextsTest");
    private static final int FAR = Integer.MAX_VALUE, DEEP = Integer.MIN_VALUE;
    private static final String REST = ";moods 0;pays 0;";
    /** By its wrapping the least int, and the greatest. */
    private static final String LEAST = "(8192*8192*32)", GREATEST = "(8192*8192*32-1)";

    public static void main(String[] args) {
        feed();
        tapeOfAText();
        emptyTape();
        sixTexts();
        textsOfTheirOwn();
        force();
        words();
        numbers();
        signs();
        blanks();
        longTokens();
        shapeOfAText();
        endsTooEarly();
        comparisons();
        denials();
        signsAheadOfOne();
        firstFault();
        fiveOpen();
        openTillItsEnd();
        wrapping();
        truth();
        precedence();
        namesOfOne();
        namesOfAHouse();
        boundsOfSighs();
        boundsOfMoods();
        boundsOfPays();
        theFirstText();
        CHECK.end();
    }

    // ---- the tape

    private static void feed() {
        CHECK.says("A byte (0 .. 255) comes behind THE TAPE: how many it has");
        RatedBySighs x = new RatedBySighs();
        CHECK.due("0", x.feed(0), 1);
        CHECK.due("255", x.feed(255), 2);
        CHECK.says("feed: BAD");
        for (int letter : new int[] {-1, 256, 256 + 32, FAR, DEEP}) {
            CHECK.due("feed " + letter, x.feed(letter), -2);
        }
        CHECK.due("two yet", x.count(5), 2);
        CHECK.says("THE TAPE (160 bytes at most)");
        for (int i = 2; i < 160; i++) {
            CHECK.due("byte " + i, x.feed(32), i + 1);
        }
        CHECK.says("feed: FULL");
        CHECK.due("a 161st", x.feed(32), -4);
        CHECK.due("a 161st", x.feed(0), -4);
        CHECK.due("BAD ahead of FULL", x.feed(256), -2);
        CHECK.due("BAD ahead of FULL", x.feed(-1), -2);
        CHECK.due("160 yet", x.count(5), 160);
    }

    private static void tapeOfAText() {
        CHECK.says("THE TAPE, which is empty then (by a FAULT, too), is a TEXT: its number");
        RatedBySighs x = new RatedBySighs();
        String full = "sighs 0;moods 0;pays 00" + "+1".repeat(68) + ";";
        CHECK.due("the tape's last byte", full.length(), 160);
        CHECK.due("of 160 bytes", Check.text(x, full), 1);
        CHECK.due("empty", x.count(5), 0);
        CHECK.due("a fault in its last byte", Check.text(x, full.substring(0, 159) + "?"), -100 - 159);
        CHECK.due("empty", x.count(5), 0);
        x.force(1);
        CHECK.due("all of it counts", x.due(0), 68);
        CHECK.due("again", x.feed('s'), 1);
        CHECK.due("and again", x.feed(' '), 2);
        CHECK.due("only what was fed since", x.text(), -100);
    }

    private static void emptyTape() {
        CHECK.says("the text's size, if it ends too early");
        RatedBySighs x = new RatedBySighs();
        CHECK.due("an empty tape", x.text(), -100);
        CHECK.due("once more", x.text(), -100);
        CHECK.due("blanks alone", Check.text(x, " \n "), -103);
        CHECK.due("160 blanks", Check.text(x, " ".repeat(160)), -260);
        CHECK.due("no text by these", x.count(4), 1);
    }

    private static void sixTexts() {
        CHECK.says("There are 6 TEXTS at most, TEXT 0 with them");
        RatedBySighs x = new RatedBySighs();
        for (int i = 1; i < 6; i++) {
            CHECK.due("text " + i, Check.text(x, "sighs " + i + ";moods 0;pays " + 100 * i + ";"), i);
            CHECK.due("texts", x.count(4), i + 1);
        }
        CHECK.says("FULL (ahead of all): no TEXT more has room (THE TAPE stays)");
        CHECK.due("of an empty tape", x.text(), -4);
        CHECK.due("of a fault", Check.text(x, "?"), -4);
        CHECK.due("the tape stays", x.count(5), 1);
        CHECK.due("of a fault once more", x.text(), -4);
        CHECK.due("the tape stays", x.count(5), 1);
        CHECK.due("a byte behind it", x.feed(32), 2);
        for (int i = 1; i < 6; i++) {
            CHECK.due("to text " + i, x.force(i), i - 1);
            CHECK.due("by text " + i, x.due(4), 100 * i);
        }
        RatedBySighs y = new RatedBySighs();
        for (int i = 1; i < 6; i++) {
            CHECK.due("a fault takes no room", Check.text(y, "sighs"), -105);
        }
        CHECK.due("five have room yet", Check.text(y, "sighs 0" + REST), 1);
    }

    private static void textsOfTheirOwn() {
        CHECK.says("There are 6 TEXTS: each is its own, however long those were that came ahead");
        RatedBySighs x = new RatedBySighs();
        String ones = "+1".repeat(30);
        for (int i = 1; i < 4; i++) {
            CHECK.due("a long one", Check.text(x, "sighs " + i + ones + ";moods -----1;pays " + i + "+-----1;"), i);
        }
        CHECK.due("a fault", Check.text(x, "sighs 1" + ones), -167);
        CHECK.due("a fault full of signs", Check.text(x, "sighs -----1"), -112);
        CHECK.due("a short one", Check.text(x, "sighs 8;moods 2;pays 3;"), 4);
        x.tenant(0, 0, 0);
        for (int i = 1; i < 5; i++) {
            x.force(i);
            CHECK.due("sighs by " + i, x.told(0, 20), i == 4 ? 8 : i + 30);
            CHECK.due("moods by " + i, x.told(0, 11), i == 4 ? 2 : -1);
            CHECK.due("pays by " + i, x.due(0), i == 4 ? 3 : i - 1);
        }
    }

    private static void force() {
        CHECK.says("A TEXT is THE RULE: which was. BAD.");
        RatedBySighs x = new RatedBySighs();
        for (int text : new int[] {-1, 1, 5, 6, FAR, DEEP}) {
            CHECK.due("force " + text, x.force(text), -2);
        }
        CHECK.due("text 0", x.force(0), 0);
        for (int i = 1; i < 6; i++) {
            Check.text(x, "sighs 0" + REST);
        }
        CHECK.due("the last", x.force(5), 0);
        for (int text : new int[] {-1, 6, FAR, DEEP}) {
            CHECK.due("force " + text, x.force(text), -2);
        }
        CHECK.due("the rule yet", x.force(0), 5);
    }

    // ---- tokens

    /** The place of the fault is marked by a |, which is not fed. */
    private static void fault(String marked) {
        int place = marked.indexOf('|');
        String tape = marked.substring(0, place) + marked.substring(place + 1);
        RatedBySighs x = new RatedBySighs();
        CHECK.due("[" + marked + "]", Check.text(x, tape), -100 - place);
        CHECK.due("texts behind [" + marked + "]", x.count(4), 1);
        CHECK.due("the tape behind [" + marked + "]", x.count(5), 0);
    }

    private static void stands(String tape) {
        RatedBySighs x = new RatedBySighs();
        CHECK.due("[" + tape + "]", Check.text(x, tape), 1);
        CHECK.due("the tape behind [" + tape + "]", x.count(5), 0);
    }

    private static void words() {
        CHECK.says("NAMES are mood hour number others house fools");
        String[] names = {"mood", "hour", "number", "others", "house", "fools"};
        for (String name : names) {
            stands("sighs " + name + REST);
            CHECK.says("a WORD that is neither KEY nor NAME");
            fault("sighs |" + name + "s" + REST);
            fault("sighs |" + name.substring(0, name.length() - 1) + REST);
            fault("sighs |x" + name + REST);
            fault("sighs |" + name.substring(1) + REST);
            oneLetterOther("sighs ", name, REST);
            for (String letter : new String[] {"a", "z"}) {
                fault("sighs |" + name + letter + REST);
                fault("sighs |" + letter + name + REST);
            }
        }
        CHECK.says("sighs, moods, pays, or, and, not are KEYS");
        for (String key : new String[] {"sighs", "moods", "pays", "or", "and"}) {
            fault("sighs |" + key + REST);
            fault("sighs 1+|" + key + REST);
            fault("sighs 1 or |" + key + " 1" + REST);
        }
        for (String key : new String[] {"sighs", "moods", "pays", "not"}) {
            fault("sighs 1 |" + key + " 1" + REST);
            fault("sighs mood |" + key + REST);
        }
        fault("|sigh 1" + REST);
        fault("sighs 1;|mood 0;pays 0;");
        fault("sighs 1;moods 0;|pay 0;");
        fault("sighs 1 |orr 1" + REST);
        fault("sighs 1 |an 1" + REST);
        fault("sighs |nott 1" + REST);
        oneLetterOther("", "sighs", " 1" + REST);
        oneLetterOther("sighs 0;", "moods", " 0;pays 0;");
        oneLetterOther("sighs 0;moods 0;", "pays", " 0;");
        oneLetterOther("sighs 1 ", "or", " 1" + REST);
        oneLetterOther("sighs 1 ", "and", " 1" + REST);
        oneLetterOther("sighs ", "not", " 1" + REST);
        CHECK.says("WORDS (a .. z)");
        for (int letter : new int[] {'a' - 1, 'z' + 1, 'A', 'M', 'Z', '_', 225, 255}) {
            fault("sighs |" + (char) letter + REST);
            fault("sighs mood|" + (char) letter + REST);
        }
    }

    private static void oneLetterOther(String ahead, String word, String behind) {
        stands(ahead + word + behind);
        for (int at = 0; at < word.length(); at++) {
            char other = word.charAt(at) == 'a' ? 'z' : 'a';
            fault(ahead + "|" + word.substring(0, at) + other + word.substring(at + 1) + behind);
        }
    }

    private static void numbers() {
        CHECK.says("NUMBERS (as many digits as stand there, 4 at most)");
        for (String number : new String[] {"0", "9", "10", "99", "100", "999", "1000", "9999", "0000", "0001"}) {
            RatedBySighs x = Check.ruled("sighs 0;moods 0;pays " + number + ";");
            CHECK.due("pays " + number, x.due(0), Integer.parseInt(number));
        }
        CHECK.says("a NUMBER that is too long");
        for (String number : new String[] {"00000", "00001", "10000", "99999", "123456", "4294967296"}) {
            fault("sighs |" + number + REST);
            fault("sighs 1 +|" + number + REST);
            fault("sighs 1 |" + number + REST);
            fault("|" + number + REST);
        }
        fault("sighs |" + "0".repeat(154));
        CHECK.says("digits 0 .. 9");
        fault("sighs 1|/1" + REST);
        fault("sighs 1|:1" + REST);
        stands("sighs 0+1+2+3+4+5+6+7+8+9" + REST);
    }

    private static void signs() {
        CHECK.says("SIGNS ( ) ; + - * < =");
        stands("sighs(1)+1-1*1<1;moods 1=1;pays 0;");
        CHECK.says("a byte that begins none");
        String known = "();+-*<= \n";
        for (int letter = 0; letter < 256; letter++) {
            boolean begins = letter >= 'a' && letter <= 'z' || letter >= '0' && letter <= '9'
                || known.indexOf(letter) >= 0;
            if (!begins) {
                fault("sighs 1|" + (char) letter + REST);
            }
        }
        fault("|?");
        fault("sighs 0;moods 0;pays 0;|?");
        fault("sighs 0;moods 0;pays 0; \n |" + (char) 0);
    }

    private static void blanks() {
        CHECK.says("blanks (32, 10) may stand between");
        stands(" \n sighs \n 1 \n ; \n moods \n ( \n 0 \n ) \n ; \n pays \n - \n mood \n ; \n ");
        stands("sighs\n1;moods 1 or\n1;pays 0;");
        stands("sighs0;moods0;pays0;");
        CHECK.says("TOKENS: no blank within one");
        fault("|si ghs 1" + REST);
        fault("sighs |mo od" + REST);
        fault("sighs 1 |2" + REST);
        fault("sighs 1\n|2" + REST);
        for (int letter : new int[] {0, 8, 9, 11, 12, 13, 31, 33, 127, 160}) {
            fault("sighs|" + (char) letter + "1" + REST);
            fault("|" + (char) letter + "sighs 1" + REST);
        }
    }

    private static void longTokens() {
        CHECK.says("TOKENS, each as long as can be");
        fault("sighs |moodmood" + REST);
        fault("|sighsmood" + REST);
        fault("sighs |notmood" + REST);
        fault("sighs 1 |ormood" + REST);
        stands("sighs1or2and3" + REST);
        fault("sighs 1or2|andnot 3" + REST);
        stands("sighs not(1)or not-1" + REST);
        fault("sighs mood|1" + REST);
        fault("sighs 1|mood" + REST);
        fault("sighs |12341234" + REST);
    }

    // ---- what can stand where

    private static void shapeOfAText() {
        CHECK.says("sighs E ; moods E ; pays E ;");
        stands("sighs 1;moods 1;pays 1;");
        fault("|moods 1;pays 1;");
        fault("|;sighs 1;moods 1;pays 1;");
        fault("sighs |;moods 1;pays 1;");
        fault("sighs 1 |moods 1;pays 1;");
        fault("sighs 1;|;moods 1;pays 1;");
        fault("sighs 1;|sighs 1;moods 1;pays 1;");
        fault("sighs 1;|pays 1;moods 1;");
        fault("sighs 1;moods |;pays 1;");
        fault("sighs 1;moods 1 |pays 1;");
        fault("sighs 1;moods 1;|moods 1;pays 1;");
        fault("sighs 1;moods 1;pays |;");
        fault("sighs 1;moods 1;pays 1|)");
        CHECK.says("the first TOKEN that can't stand there: behind all");
        fault("sighs 1;moods 1;pays 1;|;");
        fault("sighs 1;moods 1;pays 1;|1");
        fault("sighs 1;moods 1;pays 1;|mood");
        fault("sighs 1;moods 1;pays 1; |sighs 1;moods 1;pays 1;");
        fault("sighs 1;moods 1;pays 1;|(");
        fault("sighs 1;moods 1;pays 1;|12345");
    }

    private static void endsTooEarly() {
        CHECK.says("the text's size, if it ends too early");
        String[] tokens = {"sighs", "not", "(", "mood", "<", "1", ")", "*", "2", ";", "moods", "-", "hour", "+", "3",
            ";", "pays", "1", "=", "2", "or", "3", "and", "4", ";"};
        StringBuilder tape = new StringBuilder();
        for (String token : tokens) {
            fault(tape + "|");
            fault(tape + " \n|");
            tape.append(tape.length() == 0 ? "" : " ").append(token);
        }
        stands(tape.toString());
        stands(tape + " \n");
        fault("sighs 1|");
        fault("sighs (((((|");
        fault("sighs -----|");
        fault("sighs 1;moods 1;pays 1|");
    }

    private static void comparisons() {
        CHECK.says("SUM, perhaps < or = and a SUM");
        for (String a : new String[] {"<", "="}) {
            stands("sighs 1" + a + "2" + REST);
            stands("sighs (1" + a + "2)" + a + "3" + REST);
            stands("sighs 1" + a + "2 or 1" + a + "2 and 3" + a + "4" + REST);
            fault("sighs |" + a + "1" + REST);
            fault("sighs 1" + a + "|" + REST);
            for (String b : new String[] {"<", "="}) {
                fault("sighs 1" + a + "2|" + b + "3" + REST);
                fault("sighs 1" + a + "|" + b + "3" + REST);
                fault("sighs not 1" + a + "2|" + b + "3" + REST);
            }
        }
    }

    private static void denials() {
        CHECK.says("NOT: not NOT, or SUM");
        stands("sighs not 1" + REST);
        stands("sighs not not 1" + REST);
        stands("sighs 1 or not 1 and not 1" + REST);
        stands("sighs 1+(not 1)" + REST);
        fault("sighs 1+|not 1" + REST);
        fault("sighs 1-|not 1" + REST);
        fault("sighs 1*|not 1" + REST);
        fault("sighs -|not 1" + REST);
        fault("sighs 1<|not 1" + REST);
        fault("sighs 1=|not 1" + REST);
        fault("sighs not 1 |not 1" + REST);
        fault("sighs not |or 1" + REST);
    }

    private static void signsAheadOfOne() {
        CHECK.says("ONE: a NUMBER, a NAME, - ONE, ( E )");
        stands("sighs -1" + REST);
        stands("sighs -mood" + REST);
        stands("sighs --1" + REST);
        stands("sighs -(1 or 2)" + REST);
        stands("sighs 2*-3" + REST);
        stands("sighs 2--3" + REST);
        fault("sighs |+1" + REST);
        fault("sighs |*1" + REST);
        fault("sighs 1+|+1" + REST);
        fault("sighs 1*|*1" + REST);
        fault("sighs -|+1" + REST);
        fault("sighs -|)" + REST);
        fault("sighs (|)" + REST);
        fault("sighs |)1" + REST);
        fault("sighs (1|;moods");
        fault("sighs (1 |2)" + REST);
        fault("sighs 1|)" + REST);
        fault("sighs (1)|)" + REST);
        fault("sighs 1|(2)" + REST);
        fault("sighs (1)|(2)" + REST);
        fault("sighs (1)|2" + REST);
        fault("sighs (1)|mood" + REST);
    }

    private static void firstFault() {
        CHECK.says("the first TOKEN that can't stand there");
        fault("sighs 1 |1 ? x 12345 ((((((");
        fault("sighs |? 1 1");
        fault("sighs |x 1 1");
        fault("sighs |12345 1 1");
        fault("sighs (((((|( ?");
        fault("sighs 1;moods 1;pays 1;|pays ?");
        fault("sighs 1 |) ?");
    }

    private static String closed(String opening) {
        int open = opening.length() - opening.replace("(", "").length();
        return opening + "1" + ")".repeat(open);
    }

    /** All ways to open six: the sixth is too deep, and a not can't stand behind a - at all. */
    private static void fiveOpen() {
        String[] openers = {"(", "not ", "-"};
        for (int way = 0; way < 729; way++) {
            StringBuilder opening = new StringBuilder();
            int fault = -1;
            int depth = 0;
            for (int rest = way; depth < 6 && fault < 0; rest /= 3, depth++) {
                String opener = openers[rest % 3];
                boolean cantStand = opener.equals("not ") && opening.length() > 0
                    && opening.charAt(opening.length() - 1) == '-';
                if (cantStand || depth == 5) {
                    fault = opening.length();
                }
                opening.append(opener);
                if (depth == 4 && fault < 0) {
                    CHECK.says("five of these may be open");
                    stands("sighs " + closed(opening.toString()) + REST);
                }
            }
            CHECK.says("a ( , a not, a - ahead of a ONE while 5 of these are open");
            fault("sighs " + opening.substring(0, fault) + "|" + opening.substring(fault) + "1" + REST);
        }
    }

    private static void openTillItsEnd() {
        CHECK.says("a ( till its )");
        stands("sighs (((((1)))))*(((((1)))))<(((((1)))))" + REST);
        stands("sighs ((((1)+(1))+(1))+(1))+(1)" + REST);
        stands("sighs ((((-1)-(1))+(-1))+(-1))+(-1)" + REST);
        stands("sighs ((((1)))) and not ((((1))))" + REST);
        fault("sighs ((((1)+((|(1))))))" + REST);
        CHECK.says("- till what it belongs to ends");
        stands("sighs -----1-----1" + REST.replace("0", "-----1"));
        stands("sighs ----1*-----1+-----1" + REST);
        stands("sighs -(((-1))) + (((((1)))))" + REST);
        fault("sighs -(((1-(|(1)))))" + REST);
        fault("sighs -(((1--|-1)))" + REST);
        CHECK.says("not till what it belongs to ends");
        stands("sighs not not not not not 1 or not not not not not 1" + REST);
        stands("sighs not not not not not 1=2 and (((((1)))))" + REST);
        fault("sighs not not not not not 1=|(2)" + REST);
        fault("sighs not not not not not 1=|-2" + REST);
        fault("sighs not not not not not 1+|-2" + REST);
        fault("sighs not not not not not 1*|(2)" + REST);
        stands("sighs not not not not 1=-2" + REST);
        stands("sighs not not not not 1<(2) and not not not not not 1" + REST);
        CHECK.says("a - between two is none ahead of a ONE");
        stands("sighs (((((1-1-1-1-1-1-1)))))" + REST);
        CHECK.says("each E begins with none open");
        stands("sighs (((((1)))));moods (((((1)))));pays (((((1)))));");
    }

    // ---- what a text is worth

    private static void pays(String e, int due) {
        RatedBySighs x = new RatedBySighs();
        CHECK.due("the text of " + e, Check.text(x, "sighs 0;moods 0;pays " + e + ";"), 1);
        x.force(1);
        CHECK.due("worth of " + e, x.due(0), due);
    }

    private static void wrapping() {
        CHECK.says("An E is an int (32 bits, wrapping)");
        pays(LEAST + "<0", 1);
        pays(GREATEST + "<0", 0);
        pays(LEAST + "<" + GREATEST, 1);
        pays(GREATEST + "+1=" + LEAST, 1);
        pays(LEAST + "-1=" + GREATEST, 1);
        pays("-" + LEAST + "=" + LEAST, 1);
        pays("-" + GREATEST + "-1=" + LEAST, 1);
        pays(GREATEST + "*2=-2", 1);
        pays(LEAST + "*2=0", 1);
        pays("0-" + LEAST + "<0", 1);
        // 9999 three times is 999700029999: 1027349969 less than a multiple of 2 to the 32nd.
        pays("9999*9999*9999<0", 1);
        pays("9999*9999*9999+9999*(9999*10+2755)+2714+7", 7);
        pays("4096*4096*256+5", 5);
        pays("not " + LEAST, 0);
    }

    /** Ten more than it is worth: so what is below 0 is seen, too. */
    private static void isWorth(String e, boolean due) {
        pays("10+(" + e + ")", due ? 11 : 10);
    }

    private static void truth() {
        CHECK.says("of or, and, not, <, = 1 or 0 (what is not 0 is true)");
        int[] values = {0, 1, 2, 9999, -1};
        for (int a : values) {
            isWorth("not " + a, a == 0);
            isWorth("not not " + a, a != 0);
            for (int b : values) {
                isWorth(a + " or " + b, a != 0 || b != 0);
                isWorth(a + " and " + b, a != 0 && b != 0);
                isWorth(a + " < " + b, a < b);
                isWorth(a + " = " + b, a == b);
            }
        }
        pays("1 and 2 and 3", 1);
        pays("1 and 2 and 0", 0);
        pays("0 or 0 or 3", 1);
        pays(LEAST + " or 0", 1);
        pays(LEAST + " and 2", 1);
    }

    private static void precedence() {
        CHECK.says("E: AND { or AND }, AND: NOT { and NOT }");
        pays("1 or 1 and 0", 1);
        pays("0 and 0 or 1", 1);
        pays("0 and (0 or 1)", 0);
        CHECK.says("NOT: not NOT, or SUM, perhaps < or = and a SUM");
        pays("not 0 or 1", 1);
        pays("not (0 or 1)", 0);
        pays("not 1 and 0", 0);
        pays("not (1 and 0)", 1);
        pays("not 0=1", 1);
        pays("(not 0)=2", 0);
        pays("not 5+5", 0);
        pays("1<2 and 3=3", 1);
        CHECK.says("SUM: TERM { + or - TERM }, TERM: ONE { * ONE }");
        pays("20-5-3", 12);
        pays("20-5+3", 18);
        pays("20-(5+3)", 12);
        pays("2+3*4", 14);
        pays("2*3+4", 10);
        pays("2*3*4-1", 23);
        pays("-2+5", 3);
        pays("-2*-3", 6);
        pays("9-2*-3", 15);
        pays("--7", 7);
        pays("1+1=2", 1);
        pays("2=1+1", 1);
    }

    private static void namesOfOne() {
        CHECK.says("mood: MOOD then");
        for (int mood : new int[] {-20, -1, 0, 20}) {
            RatedBySighs x = Check.ruled("sighs mood+20;moods 0;pays 0;");
            x.tenant(0, 0, 0);
            x.set(3, 0, mood);
            CHECK.due("in mood " + mood, x.told(0, 20), mood + 20);
        }
        RatedBySighs y = Check.ruled("sighs mood+20;moods 0-3;pays 0;");
        y.tenant(0, 0, 0);
        CHECK.due("in the last hour", y.told(0, 25), 5);
        CHECK.says("hour: the HOUR");
        RatedBySighs x = Check.ruled("sighs 10+hour;moods hour;pays 0;");
        x.tenant(0, 0, 0);
        int[] moods = {0, 0, 1, 3, 6, 10};
        for (int hour = 0; hour < 6; hour++) {
            CHECK.due("sighs in " + hour, x.told(0, 20 + hour), 10 + hour);
            CHECK.due("mood in " + hour, x.told(0, 10 + hour), moods[hour]);
        }
        CHECK.says("number: NUMBER");
        x = Check.ruled("sighs 1+number;moods number;pays 0;");
        x.tenant(0, 0, 0);
        x.tenant(0, 9, 0);
        CHECK.due("0", x.told(0, 20), 1);
        CHECK.due("9", x.told(1, 20), 10);
        CHECK.due("moods by 9", x.told(1, 11), 9);
        CHECK.says("house: the HOUSE");
        x = Check.ruled("sighs 1+house;moods house;pays 0;");
        x.tenant(0, 0, 0);
        x.tenant(0, 0, 4);
        CHECK.due("0", x.told(0, 20), 1);
        CHECK.due("4", x.told(1, 20), 5);
        CHECK.due("moods by 4", x.told(1, 11), 4);
        othersAndFools();
    }

    private static void othersAndFools() {
        CHECK.says("others: how many others are in that HOUSE then (live there, aren't OUT)");
        RatedBySighs x = Check.ruled("sighs 10*others+fools;moods 0;pays 0;");
        x.tenant(0, 0, 1);
        CHECK.due("alone", x.told(0, 20), 0);
        for (int i = 1; i < 8; i++) {
            x.tenant(5, 0, 1);
            CHECK.due("with " + i, x.told(0, 20), 11 * i);
        }
        x.set(4, 7, 1);
        CHECK.due("one of seven out", x.told(0, 20), 66);
        CHECK.due("and back", x.told(0, 21), 77);
        x.set(2, 1, 2);
        CHECK.due("one elsewhere", x.told(0, 21), 66);
        CHECK.says("fools: how many of these are FOOLS");
        x = Check.ruled("sighs 10*others+fools;moods 0;pays 0;");
        for (int kind = 0; kind < 5; kind++) {
            x.tenant(kind, 0, 1);
        }
        CHECK.due("none of four", x.told(0, 20), 40);
        x.tenant(5, 0, 1);
        CHECK.due("one of five", x.told(0, 20), 51);
        x.set(4, 5, 32);
        CHECK.due("out in the last hour", x.told(0, 25), 40);
    }

    private static void namesOfAHouse() {
        CHECK.says("pays: of a HOUSE: hour 6");
        RatedBySighs x = Check.ruled("sighs 1;moods 0;pays hour;");
        CHECK.due("hour", x.due(0), 6);
        CHECK.says("number, fools: 0");
        x = Check.ruled("sighs 1;moods 0;pays number*1000+fools*10+7;");
        x.tenant(5, 9, 0);
        x.tenant(5, 9, 0);
        CHECK.due("number and fools", x.due(0), 7);
        CHECK.says("others: how many live there");
        x = Check.ruled("sighs 1;moods 0;pays others*10+house;");
        for (int i = 0; i < 8; i++) {
            CHECK.due(i + " live there", x.due(4), 10 * i + 4);
            x.tenant(i % 6, 0, 4);
            x.set(4, i, 63);
        }
        CHECK.due("eight live there", x.due(4), 84);
        CHECK.due("nobody lives there", x.due(3), 3);
        CHECK.says("mood: all SIGHS of the night for which it pays, together");
        x = Check.ruled("sighs 1;moods 0;pays mood;");
        CHECK.due("of nobody", x.due(0), 0);
        x.tenant(0, 0, 0);
        CHECK.due("of one", x.due(0), 6);
        x.tenant(1, 5, 0);
        x.set(0, 0, 999);
        CHECK.due("not of who is exempt", x.due(0), 6);
        CHECK.due("who is heard, though", x.reed(0, 0), 2);
    }

    private static void boundsOfSighs() {
        CHECK.says("sighs (0 .. 99, else the bound)");
        String[] es = {"-1", "0", "1", "98", "99", "100", "9999", LEAST, GREATEST, "-" + GREATEST};
        int[] due = {0, 0, 1, 98, 99, 99, 99, 0, 99, 0};
        for (int i = 0; i < es.length; i++) {
            RatedBySighs x = Check.ruled("sighs " + es[i] + REST);
            x.tenant(0, 0, 0);
            CHECK.due("sighs " + es[i], x.told(0, 20), due[i]);
        }
    }

    private static void boundsOfMoods() {
        CHECK.says("moods (-9 .. 9, else the bound)");
        String[] es = {"-10", "-9", "-8", "0", "8", "9", "10", "9999", LEAST, GREATEST};
        int[] due = {-9, -9, -8, 0, 8, 9, 9, 9, -9, 9};
        for (int i = 0; i < es.length; i++) {
            RatedBySighs x = Check.ruled("sighs 0;moods " + es[i] + ";pays 0;");
            x.tenant(0, 0, 0);
            CHECK.due("moods " + es[i], x.told(0, 11), due[i]);
        }
    }

    private static void boundsOfPays() {
        CHECK.says("what it pays (0 .. 9999, else the bound)");
        pays("-1", 0);
        pays("0", 0);
        pays("9998", 9998);
        pays("9999", 9999);
        pays("9999+1", 9999);
        pays(LEAST, 0);
        pays(GREATEST, 9999);
        CHECK.says("all SIGHS of the night, together");
        RatedBySighs x = Check.ruled("sighs 99;moods 0;pays mood;");
        for (int i = 0; i < 8; i++) {
            x.tenant(2, 0, 0);
            CHECK.due(i + 1 + " poets", x.due(0), Math.min(9999, (i + 1) * 6 * 297));
        }
        x.force(Check.text(x, "sighs 99;moods 0;pays mood-9999;"));
        CHECK.due("no bound but that of what it pays", x.due(0), 8 * 6 * 297 - 9999);
    }

    private static void theFirstText() {
        CHECK.says("TEXT 0 is: sighs 5 - mood ; moods 0 ; pays mood ;");
        RatedBySighs x = new RatedBySighs();
        x.tenant(0, 0, 0);
        int[][] rows = {{-20, 25}, {-1, 6}, {0, 5}, {4, 1}, {5, 0}, {6, 0}, {20, 0}};
        for (int[] row : rows) {
            x.set(3, 0, row[0]);
            for (int hour = 0; hour < 6; hour++) {
                CHECK.due("mood " + row[0] + " in " + hour, x.told(0, 10 + hour), row[0]);
                CHECK.due("sighs in mood " + row[0] + " in " + hour, x.told(0, 20 + hour), row[1]);
            }
            CHECK.due("pays in mood " + row[0], x.due(0), 6 * row[1]);
        }
    }
}
