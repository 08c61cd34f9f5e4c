/** Promises 5 to 7. */
public final class TextsTest {
    private static final Check CHECK = new Check("TextsTest");

    public static void main(String[] args) {
        feed();
        textAndTape();
        fullOfTexts();
        faultsOfTokens();
        faultsOfOrder();
        faultsOfDepth();
        worths();
        namesOfOne();
        namesOfAHouse();
        force();
        CHECK.end();
    }

    private static void feed() {
        RatedBySighs x = new RatedBySighs();
        CHECK.due("feed -1", x.feed(-1), -2);
        CHECK.due("feed 256", x.feed(256), -2);
        CHECK.due("nothing came", x.count(5), 0);
        for (int i = 0; i < 160; i++) {
            CHECK.due("feed " + i, x.feed(i == 0 ? 0 : i == 1 ? 255 : 32), i + 1);
        }
        CHECK.due("a full tape", x.feed(32), -4);
        CHECK.due("bad ahead of full", x.feed(-1), -2);
        CHECK.due("bad ahead of full", x.feed(256), -2);
        CHECK.due("160 bytes", x.count(5), 160);
    }

    private static void textAndTape() {
        RatedBySighs x = new RatedBySighs();
        CHECK.due("the empty tape", x.text(), -100);
        CHECK.due("a text", Check.text(x, "sighs 1;moods 2;pays 3;"), 1);
        CHECK.due("the tape behind a text", x.count(5), 0);
        CHECK.due("a fault", Check.text(x, "sighs 1;moods 2;pays;"), -120);
        CHECK.due("the tape behind a fault", x.count(5), 0);
        CHECK.due("texts", x.count(4), 2);
        CHECK.due("the rule is not the new text", x.count(6), 0);
        CHECK.due("the next text", Check.text(x, "sighs mood\n;\nmoods hour ; pays number ;  \n"), 2);
        CHECK.due("of 160 bytes", Check.text(x, "sighs 1;moods 2;pays 3;" + " ".repeat(137)), 3);
        StringBuilder ones = new StringBuilder("sighs 0;moods 0;pays 0");
        while (ones.length() < 158) {
            ones.append("+1");
        }
        CHECK.due("of 159 bytes", Check.text(x, ones + ";"), 4);
        x.force(4);
        CHECK.due("its sum", x.due(0), 68);
        CHECK.due("a full tape that ends in a word", Check.text(new RatedBySighs(), " ".repeat(155) + "sighs"), -260);
        CHECK.due("a full tape that ends in a number", Check.text(new RatedBySighs(), "sighs" + " ".repeat(154) + "7"), -260);
        CHECK.due("a full tape that ends in a blank", Check.text(new RatedBySighs(), "sighs 7" + " ".repeat(153)), -260);
        x = new RatedBySighs();
        CHECK.due("a longer tape", Check.text(x, "sighsmoods"), -100);
        CHECK.due("what stood behind is gone", Check.text(x, "sighs"), -105);
        CHECK.due("a longer tape", Check.text(x, "sighs 123456"), -106);
        CHECK.due("what stood behind is gone", Check.text(x, "sighs 123"), -109);
    }

    private static void fullOfTexts() {
        RatedBySighs x = new RatedBySighs();
        for (int i = 1; i < 6; i++) {
            CHECK.due("text " + i, Check.text(x, "sighs " + i + ";moods 0;pays mood;"), i);
        }
        CHECK.due("six texts", x.count(4), 6);
        CHECK.due("no room", Check.text(x, "sighs 1;moods 0;pays mood;"), -4);
        CHECK.due("the tape stays", x.count(5), 26);
        CHECK.due("full ahead of a fault", Check.text(x, "?"), -4);
        CHECK.due("the tape stays", x.count(5), 27);
        x.tenant(0, 0, 0);
        for (int i = 1; i < 6; i++) {
            x.force(i);
            CHECK.due("text " + i + " is its own", x.told(0, 20), i);
        }
    }

    /** The place of the fault is marked by a |, which is not fed. */
    private static void fault(String marked) {
        int place = marked.indexOf('|');
        String tape = marked.substring(0, place) + marked.substring(place + 1);
        RatedBySighs x = new RatedBySighs();
        CHECK.due("[" + marked + "]", Check.text(x, tape), -100 - place);
        CHECK.due("no text by " + marked, x.count(4), 1);
    }

    private static void stands(String tape) {
        CHECK.due("[" + tape + "]", Check.text(new RatedBySighs(), tape), 1);
    }

    private static void faultsOfTokens() {
        fault("sighs |Mood;moods 0;pays 0;");
        fault("sighs |?;moods 0;pays 0;");
        fault("sighs |moo;moods 0;pays 0;");
        fault("sighs |moodhour;moods 0;pays 0;");
        fault("sighs |food;moods 0;pays 0;");
        fault("sighs |moodz;moods 0;pays 0;");
        fault("sighs |moaod;moods 0;pays 0;");
        fault("sighs |mooe;moods 0;pays 0;");
        fault("|zighs 1;moods 0;pays 0;");
        fault("sighs |12345;moods 0;pays 0;");
        fault("sighs |00000;moods 0;pays 0;");
        fault("sighs |" + "9".repeat(120) + ";");
        fault("sighs 1|\t;moods 0;pays 0;");
        fault("sighs 1|\r;moods 0;pays 0;");
        fault("sighs 1|" + (char) 233 + ";moods 0;pays 0;");
        fault("sighs 1|" + (char) 0 + ";moods 0;pays 0;");
        fault("sighs 1|>2;moods 0;pays 0;");
        fault("sighs 1|/2;moods 0;pays 0;");
        fault("sighs 2|mood;moods 0;pays 0;");
        fault("sighs 2 |mood2;moods 0;pays 0;");
        fault("sighs mood |2;moods 0;pays 0;");
        fault("sighs1 |x;moods 0;pays 0;");
        stands("sighs0000;moods9999;pays0;");
        stands("  \n sighs 1;moods 0;pays 0;");
        // The first fault counts, not a worse one behind it.
        fault("sighs 1 |1 ? 12345;");
        fault("sighs |; ? 12345;");
    }

    private static void faultsOfOrder() {
        fault("|");
        fault("   |");
        fault("|moods 0;sighs 0;pays 0;");
        fault("|1");
        fault("sighs|");
        fault("sighs  |");
        fault("sighs 1|");
        fault("sighs 1 |moods 0;pays 0;");
        fault("sighs 1;|pays 0;moods 0;");
        fault("sighs 1;|");
        fault("sighs 1;moods 0;pays 0|");
        fault("sighs 1;moods 0;pays 0 \n|");
        fault("sighs 1;moods 0;pays 0;|;");
        fault("sighs 1;moods 0;pays 0; |sighs 1;");
        fault("sighs |sighs;moods 0;pays 0;");
        fault("sighs |moods;moods 0;pays 0;");
        fault("sighs |pays;moods 0;pays 0;");
        fault("sighs |or 1;moods 0;pays 0;");
        fault("sighs 1 or |or 1;moods 0;pays 0;");
        fault("sighs 1 and |;moods 0;pays 0;");
        fault("sighs 1 |not 1;moods 0;pays 0;");
        fault("sighs 1 + |not 1;moods 0;pays 0;");
        fault("sighs 1 = |not 1;moods 0;pays 0;");
        fault("sighs - |not 1;moods 0;pays 0;");
        fault("sighs not |;moods 0;pays 0;");
        fault("sighs 1 < 2 |< 3;moods 0;pays 0;");
        fault("sighs 1 = 2 |= 3;moods 0;pays 0;");
        fault("sighs 1 < 2 |= 3;moods 0;pays 0;");
        fault("sighs 1 |(2);moods 0;pays 0;");
        fault("sighs (1|;moods 0;pays 0;");
        fault("sighs (1) |);moods 0;pays 0;");
        fault("sighs (|);moods 0;pays 0;");
        fault("sighs |+ 1;moods 0;pays 0;");
        fault("sighs 1 + |* 1;moods 0;pays 0;");
        fault("sighs 1 +|");
        stands("sighs not 1 = 2 and not not 3 or 4 < 5 ; moods - - 1 - -1 ; pays ( not 1 ) * - ( 2 or 3 ) ;");
        stands("sighs (1 < 2) < 3;moods 0;pays 0;");
    }

    private static void faultsOfDepth() {
        stands("sighs (((((1)))));moods 0;pays 0;");
        fault("sighs (((((|(1))))));moods 0;pays 0;");
        stands("sighs -----1;moods 0;pays 0;");
        fault("sighs -----|-1;moods 0;pays 0;");
        stands("sighs not not not not not 1;moods 0;pays 0;");
        fault("sighs not not not not not |not 1;moods 0;pays 0;");
        fault("sighs not (- (- |(1)));moods 0;pays 0;");
        fault("sighs not not not - - |(1);moods 0;pays 0;");
        fault("sighs not (not (- |- 1));moods 0;pays 0;");
        // What has ended is open no more: signs between two do not open, either.
        stands("sighs (((((1)))))+(((((1)))))-----1;moods (((((1)))));pays -----1*-----1;");
        stands("sighs not not not not not 1 and not not not not not 1;moods 0;pays 0;");
        stands("sighs ((((-1))))-((((-1))));moods 0;pays 0;");
        fault("sighs ((((-1))))-((((-|-1))));moods 0;pays 0;");
        // A not is open till its comparison ends.
        fault("sighs not ((((1)))) = ((((|(1)))));moods 0;pays 0;");
        stands("sighs not ((((1)))) = ((((1))));moods 0;pays 0;");
    }

    private static int worth(String e) {
        RatedBySighs x = Check.ruled("sighs 0;moods 0;pays " + e + ";");
        return x.count(6) == 1 ? x.due(0) : -1;
    }

    private static void worths() {
        String[] es = {"7", "0012", "9999", "2+3*4", "(2+3)*4", "9-3-2", "9-(3-2)", "2*3*4", "-3+5", "3--2", "-(2-9)",
            "1<2", "2<1", "2<2", "2=2", "2=3", "5 or 0", "0 or 0", "0 or -3", "4 and 6", "4 and 0", "not 0", "not 7",
            "not not 7", "1 and 1", "0 and 5", "5 and 1", "1 or 1", "0 or 1", "not 1", "not 1=2", "not 2=2", "not 0 and 0", "not (0 and 0)", "1 or 0 and 0", "(1 or 0) and 0",
            "1+1<1+2", "3*(2<5)+1", "(1<2)+(2<3)", "(4)", "0-1", "1<-1", "-1<1"};
        int[] due = {7, 12, 9999, 14, 20, 4, 8, 24, 2, 5, 7,
            1, 0, 0, 1, 0, 1, 0, 1, 1, 0, 1, 0,
            1, 1, 0, 1, 1, 1, 0, 1, 0, 0, 1, 1, 0,
            1, 4, 2, 4, 0, 0, 1};
        for (int i = 0; i < es.length; i++) {
            CHECK.due("worth of " + es[i], worth(es[i]), due[i]);
        }
        CHECK.due("above the bound", worth("9999+1"), 9999);
        CHECK.due("wrapping below", worth("8192*8192*32"), 0);
        CHECK.due("wrapping round", worth("4096*4096*256+77"), 77);
        CHECK.due("wrapping to the greatest", worth("0-8192*8192*32-1"), 9999);
    }

    private static void namesOfOne() {
        RatedBySighs x = Check.ruled("sighs hour*10+number;moods 0;pays 0;");
        x.tenant(0, 7, 0);
        for (int hour = 0; hour < 6; hour++) {
            CHECK.due("hour and number", x.told(0, 20 + hour), 10 * hour + 7);
        }
        x = Check.ruled("sighs others*10+fools;moods 0;pays 0;");
        x.tenant(0, 0, 3);
        x.tenant(5, 0, 3);
        x.tenant(5, 0, 3);
        x.tenant(2, 0, 3);
        x.tenant(5, 0, 2);
        x.set(4, 1, 1);
        CHECK.due("one fool out", x.told(0, 20), 21);
        CHECK.due("no fool out", x.told(0, 21), 32);
        CHECK.due("of a poet", x.told(3, 21), 96);
        x.set(4, 0, 2);
        CHECK.due("one out oneself", x.told(0, 21), 0);
        CHECK.due("one fewer with the poet", x.told(3, 21), 66);
        x = Check.ruled("sighs house*20-mood;moods mood+1;pays 0;");
        x.tenant(0, 0, 4);
        int[] moods = {0, 1, 3, 7, 15, 20};
        for (int hour = 0; hour < 6; hour++) {
            CHECK.due("a mood by moods", x.told(0, 10 + hour), moods[hour]);
            CHECK.due("house and mood", x.told(0, 20 + hour), 80 - moods[hour]);
        }
    }

    private static void namesOfAHouse() {
        RatedBySighs x = Check.ruled("sighs 1;moods 0;pays others*1000+hour*100+house*10+number+fools;");
        x.tenant(0, 9, 3);
        x.tenant(5, 9, 3);
        x.tenant(0, 9, 3);
        x.set(4, 2, 63);
        CHECK.due("of three, one a fool, one out", x.due(3), 3630);
        CHECK.due("of nobody", x.due(2), 620);
        x.force(Check.text(x, "sighs 1;moods 0;pays mood;"));
        CHECK.due("mood is all sighs", x.due(3), 6);
    }

    private static void force() {
        RatedBySighs x = new RatedBySighs();
        CHECK.due("none such", x.force(1), -2);
        CHECK.due("none such", x.force(-1), -2);
        CHECK.due("itself", x.force(0), 0);
        Check.text(x, "sighs 8;moods 0;pays mood;");
        Check.text(x, "sighs 9;moods 0;pays mood;");
        x.tenant(0, 0, 0);
        CHECK.due("still text 0", x.told(0, 20), 5);
        CHECK.due("from 0", x.force(2), 0);
        CHECK.due("by text 2", x.told(0, 20), 9);
        CHECK.due("from 2", x.force(1), 2);
        CHECK.due("none such", x.force(3), -2);
        CHECK.due("none such", x.force(Integer.MAX_VALUE), -2);
        CHECK.due("as it was", x.count(6), 1);
        CHECK.due("from 1", x.force(0), 1);
    }
}
