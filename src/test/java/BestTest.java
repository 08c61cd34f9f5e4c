/** Promises 13 to 17. */
public final class BestTest {
    private static final Check CHECK = new Check("BestTest");
    private static final int FAR = Integer.MAX_VALUE, DEEP = Integer.MIN_VALUE;
    private static final String BY_HOUR = "sighs hour;moods 0;pays mood;";

    public static void main(String[] args) {
        refusals();
        nobody();
        cheer();
        cart();
        few();
        fewRefuses();
        move();
        change();
        eight();
        CHECK.end();
    }

    private static void best(String what, int which, int all, int wantWhich, int wantAll) {
        CHECK.due(what, which, wantWhich);
        CHECK.due(what + ", all then", all, wantAll);
    }

    private static void refusals() {
        RatedBySighs x = new RatedBySighs();
        x.tenant(0, 0, 0);
        for (int what : new int[] {-1, 2, FAR, DEEP}) {
            CHECK.due("bad cheer", x.cheer(what), -2);
            CHECK.due("bad cart", x.cart(what), -2);
            CHECK.due("bad move", x.move(what), -2);
            CHECK.due("bad change", x.change(what), -2);
        }
    }

    private static void nobody() {
        RatedBySighs x = Check.ruled("sighs 0;moods 0;pays 7;");
        best("nobody's cheer", x.cheer(0), x.cheer(1), -1, 35);
        best("nobody's cart", x.cart(0), x.cart(1), -1, 35);
        best("nobody's move", x.move(0), x.move(1), -1, 35);
        best("nobody's change", x.change(0), x.change(1), -1, 35);
    }

    private static void cheer() {
        RatedBySighs x = new RatedBySighs();
        x.tenant(0, 0, 0);
        x.tenant(0, 0, 1);
        x.tenant(0, 0, 1);
        best("no fool", x.cheer(0), x.cheer(1), -1, 90);
        x.tenant(5, 0, 2);
        best("a fool where most are", x.cheer(0), x.cheer(1), 31, 60);
        CHECK.due("the fool stays", x.told(3, 2), 2);
        x.tenant(5, 0, 4);
        best("of like fools the first", x.cheer(0), x.cheer(1), 31, 60);
        x.set(2, 3, 1);
        best("a second fool", x.cheer(0), x.cheer(1), 40, 45);
        x = new RatedBySighs();
        x.tenant(0, 0, 3);
        x.tenant(0, 0, 2);
        x.tenant(5, 0, 0);
        best("of like houses the first", x.cheer(0), x.cheer(1), 22, 45);
        x.set(2, 2, 3);
        best("where it is as good", x.cheer(0), x.cheer(1), -1, 45);
        x = Check.ruled("sighs others*2;moods 0;pays mood;");
        x.tenant(0, 0, 0);
        x.tenant(0, 0, 0);
        x.tenant(5, 0, 1);
        best("only fools move", x.cheer(0), x.cheer(1), -1, 24);
    }

    private static void cart() {
        RatedBySighs x = Check.ruled(BY_HOUR);
        x.tenant(0, 0, 0);
        x.tenant(0, 0, 3);
        best("the last hour of the first", x.cart(0), x.cart(1), 5, 25);
        x.set(4, 0, 32);
        best("who is not out then", x.cart(0), x.cart(1), 15, 20);
        x.set(4, 1, 32);
        best("an hour more", x.cart(0), x.cart(1), 4, 16);
        CHECK.due("out as before", x.told(0, 4), 32);
        x.set(4, 0, 62);
        x.set(4, 1, 62);
        best("nothing to save", x.cart(0), x.cart(1), -1, 0);
        x = new RatedBySighs();
        x.tenant(2, 0, 0);
        // Out at first, one is in a better mood for all hours that follow.
        best("early is best", x.cart(0), x.cart(1), 0, 60);
    }

    private static void few() {
        RatedBySighs x = Check.ruled(BY_HOUR);
        x.tenant(0, 0, 0);
        int[][] rows = {{9999, 0}, {15, 0}, {14, 2}, {13, 4}, {11, 16}, {10, 32}, {9, 20}, {6, 48}, {5, 44}, {0, 62}};
        for (int[] row : rows) {
            CHECK.due("few for " + row[0], x.few(0, row[0]), row[1]);
        }
        x.set(4, 0, 3);
        CHECK.due("out just then, not now", x.few(0, 10), 32);
        CHECK.due("out just then, not now", x.few(0, 15), 0);
        CHECK.due("out as before", x.told(0, 4), 3);
        x.tenant(0, 0, 1);
        CHECK.due("another house does not matter", x.few(0, 0), 62);
        x.tenant(0, 0, 0);
        CHECK.due("another one's sighs stay", x.few(0, 14), -1);
        CHECK.due("another one's sighs stay", x.few(0, 15), 62);
        x.set(2, 0, 4);
        CHECK.due("in the house where one lives", x.few(0, 14), 2);
        x = Check.ruled("sighs 5;moods 0;pays mood;");
        x.tenant(0, 0, 0);
        CHECK.due("all hours", x.few(0, 0), 63);
        CHECK.due("five hours", x.few(0, 9), 31);
    }

    private static void fewRefuses() {
        RatedBySighs x = new RatedBySighs();
        CHECK.due("few of nobody", x.few(0, 0), -2);
        x.tenant(0, 0, 0);
        int[][] bad = {{-1, 0}, {1, 0}, {0, -1}, {0, 10000}, {FAR, 0}, {DEEP, 0}, {0, FAR}, {0, DEEP}};
        for (int[] b : bad) {
            CHECK.due("bad few", x.few(b[0], b[1]), -2);
        }
    }

    private static void move() {
        RatedBySighs x = Check.ruled("sighs others*5;moods 0;pays mood;");
        x.tenant(0, 0, 0);
        x.tenant(0, 0, 0);
        best("apart", x.move(0), x.move(1), 1, 0);
        CHECK.due("all stay", x.due(0), 60);
        x.tenant(2, 0, 1);
        x.tenant(0, 0, 1);
        best("the poet elsewhere", x.move(0), x.move(1), 22, 60);
        x.set(2, 1, 2);
        x.set(2, 3, 3);
        best("all are apart", x.move(0), x.move(1), -1, 0);
        x = Check.ruled("sighs house*2;moods 0;pays mood;");
        x.tenant(0, 0, 1);
        x.tenant(0, 0, 3);
        x.tenant(0, 0, 4);
        x.tenant(0, 0, 4);
        best("of like ones the first", x.move(0), x.move(1), 20, 96);
        x = new RatedBySighs();
        x.tenant(0, 0, 4);
        x.tenant(5, 0, 2);
        best("one to the fool ahead of the fool to one", x.move(0), x.move(1), 2, 15);
    }

    private static void change() {
        RatedBySighs x = Check.ruled("sighs number*house;moods 0;pays mood;");
        x.tenant(0, 9, 4);
        best("one alone", x.change(0), x.change(1), -1, 216);
        x.tenant(0, 1, 0);
        best("two", x.change(0), x.change(1), 1, 24);
        x.tenant(0, 0, 0);
        best("the better of two", x.change(0), x.change(1), 2, 0);
        x.tenant(0, 0, 0);
        best("of like ones the first", x.change(0), x.change(1), 2, 0);
        CHECK.due("all stay", x.due(4), 216);
        x.set(2, 0, 0);
        best("none is better", x.change(0), x.change(1), -1, 0);
        x = Check.ruled("sighs number*house;moods 0;pays mood;");
        x.tenant(0, 0, 2);
        x.tenant(0, 1, 2);
        x.tenant(0, 5, 3);
        best("the lesser number first", x.change(0), x.change(1), 2, 72);
        x.set(1, 0, 5);
        best("numbers 1 and 2", x.change(0), x.change(1), 12, 138);
    }

    private static void eight() {
        RatedBySighs x = Check.ruled("sighs number*house;moods 0;pays mood;");
        for (int i = 0; i < 7; i++) {
            x.tenant(0, 0, 0);
        }
        x.tenant(0, 9, 4);
        best("the last one moves", x.move(0), x.move(1), 70, 0);
        best("the last one changes", x.change(0), x.change(1), 7, 0);
        best("the last one is out", x.cart(0), x.cart(1), 70, 180);
        CHECK.due("the last one's hours", x.few(7, 100), 15);
        best("no fool of eight", x.cheer(0), x.cheer(1), -1, 216);
        x = new RatedBySighs();
        for (int i = 0; i < 7; i++) {
            x.tenant(0, 0, 1);
        }
        x.tenant(5, 0, 0);
        best("the last one is the fool", x.cheer(0), x.cheer(1), 71, 105);
    }
}
