/** Promises 8 to 12. */
public final class NightsTest {
    private static final Check CHECK = new Check("NightsTest");
    private static final int FAR = Integer.MAX_VALUE, DEEP = Integer.MIN_VALUE;

    public static void main(String[] args) {
        reed();
        due();
        dueOfExempt();
        night();
        nightsPaid();
        loudest();
        cost();
        CHECK.end();
    }

    private static void reed() {
        RatedBySighs x = new RatedBySighs();
        x.tenant(0, 0, 1);
        x.tenant(2, 0, 1);
        x.tenant(1, 9, 1);
        x.tenant(3, 0, 2);
        x.set(4, 1, 4);
        int[] first = {20, 20, 5, 17, 17, 17};
        for (int hour = 0; hour < 6; hour++) {
            CHECK.due("house 1 in " + hour, x.reed(1, hour), first[hour]);
            CHECK.due("house 0 in " + hour, x.reed(0, hour), 0);
        }
        // An exempt one is heard, too: the aunt's mood falls by 1 in each hour.
        x.set(0, 0, 1);
        int[] aunt = {2, 3, 3, 4, 4, 5};
        for (int hour = 0; hour < 6; hour++) {
            CHECK.due("house 2 in " + hour, x.reed(2, hour), aunt[hour]);
        }
        int[][] bad = {{-1, 0}, {5, 0}, {0, -1}, {0, 6}, {FAR, 0}, {0, DEEP}};
        for (int[] b : bad) {
            CHECK.due("bad reed", x.reed(b[0], b[1]), -2);
        }
    }

    private static void due() {
        RatedBySighs x = Check.ruled("sighs 1;moods 0;pays mood+house*100+others*1000;");
        CHECK.due("all of nobody", x.due(-1), 1000);
        x.tenant(0, 0, 2);
        x.tenant(0, 0, 2);
        int[] due = {0, 100, 2212, 300, 400};
        for (int house = 0; house < 5; house++) {
            CHECK.due("due " + house, x.due(house), due[house]);
        }
        CHECK.due("all", x.due(-1), 3012);
        for (int house : new int[] {-2, 5, FAR, DEEP}) {
            CHECK.due("bad due", x.due(house), -2);
        }
        x.force(Check.text(x, "sighs 1;moods 0;pays house*5000-5001;"));
        int[] bounded = {0, 0, 4999, 9999, 9999};
        for (int house = 0; house < 5; house++) {
            CHECK.due("bounded due " + house, x.due(house), bounded[house]);
        }
        CHECK.due("all", x.due(-1), 24997);
    }

    private static void dueOfExempt() {
        RatedBySighs x = Check.ruled("sighs 4;moods 0;pays mood;");
        x.set(0, 0, 500);
        x.tenant(0, 0, 0);
        x.tenant(1, 4, 0);
        x.tenant(1, 5, 0);
        x.tenant(3, 0, 0);
        x.tenant(5, 0, 0);
        CHECK.due("on an even night", x.due(0), 24 + 24 + 12);
        x.set(0, 0, 501);
        CHECK.due("on an odd night", x.due(0), 24 + 24);
        CHECK.due("heard", x.reed(0, 0), 4 + 4 + 4 + 2);
    }

    private static void night() {
        RatedBySighs x = Check.ruled("sighs 5-mood;moods 1;pays mood;");
        x.tenant(0, 0, 0);
        x.tenant(3, 1, 4);
        x.set(3, 0, -1);
        x.set(4, 0, 2);
        x.set(0, 0, 9);
        // Moods -1 0 1 2 3 4: sighs 6, out, 4 3 2 1; the aunt waits for night 10 in mood 0.
        CHECK.due("night 9", x.night(), 16);
        int[] after = {10, 0, 0, -1, 2, 0};
        for (int what = 0; what < after.length; what++) {
            CHECK.due("one comes home as one did " + what, x.told(0, what), after[what]);
        }
        CHECK.due("paid", x.count(3), 16);
        CHECK.due("night 10", x.night(), 16 + 12);
        CHECK.due("paid", x.count(3), 44);
        x.set(0, 0, 998);
        CHECK.due("night 998", x.night(), 28);
        CHECK.due("night 999", x.night(), -3);
        CHECK.due("paid", x.count(3), 72);
        CHECK.due("still 999", x.count(2), 999);
    }

    private static void nightsPaid() {
        RatedBySighs x = Check.ruled("sighs 0;moods 0;pays 9999;");
        long paid = 0;
        for (int i = 0; i < 300; i++) {
            x.night();
            paid += 49995;
        }
        CHECK.due("paid for 300 nights", x.count(3), paid);
    }

    private static void loudest() {
        RatedBySighs x = new RatedBySighs();
        CHECK.due("where nobody is", x.loudest(0), 0);
        CHECK.due("of nobody", x.loudest(1), 0);
        x = Check.ruled("sighs hour=2 or hour=4;moods 0;pays 0;");
        x.tenant(0, 0, 3);
        CHECK.due("the first hour", x.loudest(0), 32);
        CHECK.due("its reed", x.loudest(1), 1);
        x.tenant(0, 0, 1);
        CHECK.due("the first house", x.loudest(0), 12);
        x.tenant(0, 0, 4);
        x.tenant(0, 0, 4);
        x.set(4, 3, 4);
        CHECK.due("most", x.loudest(0), 44);
        CHECK.due("most, its reed", x.loudest(1), 2);
        for (int what : new int[] {-1, 2, FAR, DEEP}) {
            CHECK.due("bad loudest", x.loudest(what), -2);
        }
    }

    private static void cost() {
        RatedBySighs x = Check.ruled("sighs 1;moods 0;pays mood+others*100;");
        x.tenant(0, 0, 0);
        x.tenant(0, 0, 0);
        CHECK.due("one of two", x.cost(0), 106);
        for (int one : new int[] {-1, 2, FAR, DEEP}) {
            CHECK.due("nobody's cost", x.cost(one), -100000);
        }
        x = new RatedBySighs();
        x.tenant(0, 0, 3);
        x.tenant(5, 0, 3);
        x.tenant(0, 0, 2);
        CHECK.due("with a fool", x.cost(0), 15);
        CHECK.due("a fool's", x.cost(1), -15);
        CHECK.due("in another house", x.cost(2), 30);
        CHECK.due("all are there yet", x.due(-1), 45);
        CHECK.due("where they lived", x.told(1, 2), 3);
        x = Check.ruled("sighs others*3;moods 0;pays mood;");
        x.tenant(0, 0, 0);
        x.tenant(0, 0, 0);
        x.tenant(0, 0, 0);
        CHECK.due("others sigh less without one", x.cost(1), 6 * 6 * 3 - 6 * 3 * 2);
    }
}
