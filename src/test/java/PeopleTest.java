/** Promises 1 to 4. */
public final class PeopleTest {
    private static final Check CHECK = new Check("PeopleTest");
    private static final int TENANT = 0, WIDOW = 1, POET = 2, AUNT = 3, LOVER = 4, FOOL = 5;

    public static void main(String[] args) {
        newObject();
        set();
        setRefuses();
        tenant();
        toldOfState();
        exempt();
        sighsOfKinds();
        widowsWait();
        swaysOfKinds();
        swaysWithFools();
        outInHours();
        bounds();
        toldRefuses();
        CHECK.end();
    }

    private static void newObject() {
        RatedBySighs x = new RatedBySighs();
        int[] counts = {0, 0, 0, 0, 1, 0, 0};
        for (int i = 0; i < counts.length; i++) {
            CHECK.due("new count " + i, x.count(i), counts[i]);
        }
        for (int i = 0; i < 4; i++) {
            CHECK.due("new sheet " + i, x.cell(i, 0, 0), -11);
        }
        CHECK.due("new told", x.told(0, 1), -100);
        CHECK.due("new back", x.back(), -3);
        CHECK.due("new due", x.due(-1), 0);
    }

    private static void set() {
        RatedBySighs x = new RatedBySighs();
        CHECK.due("night, of nobody", x.set(0, 77, 5), 0);
        CHECK.due("night, of nobody", x.set(0, -5, 999), 5);
        CHECK.due("night 0", x.set(0, 0, 0), 999);
        x.tenant(TENANT, 3, 2);
        x.tenant(POET, 4, 1);
        int[][] rows = {{1, 9, 3}, {1, 0, 9}, {2, 4, 2}, {2, 0, 4}, {3, -20, 0}, {3, 20, -20}, {4, 63, 0}, {4, 0, 63}};
        for (int[] row : rows) {
            CHECK.due("set " + row[0] + " to " + row[1], x.set(row[0], 0, row[1]), row[2]);
            CHECK.due("told " + row[0], x.told(0, row[0]), row[1]);
        }
        int[] other = {0, 4, 1, 0, 0, POET};
        for (int what = 0; what < other.length; what++) {
            CHECK.due("the other one's " + what, x.told(1, what), other[what]);
        }
    }

    private static void setRefuses() {
        RatedBySighs x = new RatedBySighs();
        x.tenant(LOVER, 7, 3);
        x.set(0, 0, 12);
        x.set(3, 0, -6);
        x.set(4, 0, 9);
        int[][] bad = {{-1, 0, 0}, {5, 0, 0}, {6, 0, 0}, {0, 0, -1}, {0, 0, 1000}, {1, 0, -1}, {1, 0, 10}, {2, 0, -1},
            {2, 0, 5}, {3, 0, -21}, {3, 0, 21}, {4, 0, -1}, {4, 0, 64}, {1, -1, 0}, {1, 1, 0}, {2, 1, 0}, {3, 8, 0},
            {4, Integer.MAX_VALUE, 0}, {3, Integer.MIN_VALUE, 0}, {Integer.MAX_VALUE, 0, 0}};
        int[] now = {12, 7, 3, -6, 9, LOVER};
        for (int[] b : bad) {
            CHECK.due("set " + b[0] + " " + b[1] + " " + b[2], x.set(b[0], b[1], b[2]), -100);
            for (int what = 0; what < now.length; what++) {
                CHECK.due("unchanged " + what, x.told(0, what), now[what]);
            }
        }
    }

    private static void tenant() {
        RatedBySighs x = new RatedBySighs();
        int[][] bad = {{-1, 0, 0}, {6, 0, 0}, {0, -1, 0}, {0, 10, 0}, {0, 0, -1}, {0, 0, 5}};
        for (int[] b : bad) {
            CHECK.due("bad tenant", x.tenant(b[0], b[1], b[2]), -2);
        }
        CHECK.due("nobody came", x.count(0), 0);
        for (int i = 0; i < 8; i++) {
            CHECK.due("tenant " + i, x.tenant(i % 6, 9 - i, i % 5), i);
        }
        CHECK.due("full", x.tenant(0, 0, 0), -4);
        for (int[] b : bad) {
            CHECK.due("bad ahead of full", x.tenant(b[0], b[1], b[2]), -2);
        }
        for (int i = 0; i < 8; i++) {
            int[] parts = {0, 9 - i, i % 5, 0, 0, i % 6};
            for (int what = 0; what < parts.length; what++) {
                CHECK.due("one " + i + " part " + what, x.told(i, what), parts[what]);
            }
        }
        x = new RatedBySighs();
        x.image();
        x.tenant(0, 0, 0);
        x.set(3, 0, 9);
        x.set(4, 0, 9);
        x.back();
        CHECK.due("comes where one went", x.tenant(POET, 1, 1), 0);
        CHECK.due("in mood 0", x.told(0, 3), 0);
        CHECK.due("out never", x.told(0, 4), 0);
    }

    private static void toldOfState() {
        RatedBySighs x = new RatedBySighs();
        x.set(0, 0, 321);
        CHECK.due("the night, of nobody", x.told(5, 0), 321);
        CHECK.due("the night, of nobody", x.told(-1, 0), 321);
    }

    private static void exempt() {
        for (int night = 98; night < 100; night++) {
            for (int number = 0; number < 10; number++) {
                RatedBySighs x = new RatedBySighs();
                x.set(0, 0, night);
                for (int kind = 0; kind < 6; kind++) {
                    x.tenant(kind, number, 0);
                }
                int widow = number > 4 ? 1 : 0;
                int[] due = {0, widow, 0, night == 99 ? 1 : widow, 0, 1};
                for (int kind = 0; kind < 6; kind++) {
                    CHECK.due("exempt " + kind + " " + number + " in " + night, x.told(kind, 6), due[kind]);
                }
            }
        }
    }

    /** One of a kind alone in house 1; its moods and its sighs in the six hours. */
    private static void alone(String rule, int kind, int number, int[] moods, int[] sighs) {
        RatedBySighs x = Check.ruled(rule);
        x.tenant(kind, number, 1);
        hours("alone, kind " + kind, x, 0, moods, sighs);
    }

    private static void hours(String who, RatedBySighs x, int one, int[] moods, int[] sighs) {
        for (int hour = 0; hour < 6; hour++) {
            CHECK.due(who + " mood in " + hour, x.told(one, 10 + hour), moods[hour]);
            CHECK.due(who + " sighs in " + hour, x.told(one, 20 + hour), sighs[hour]);
        }
    }

    private static void sighsOfKinds() {
        String rule = "sighs 9; moods 2; pays mood;";
        alone(rule, TENANT, 3, new int[] {0, 2, 4, 6, 8, 10}, new int[] {9, 9, 9, 9, 9, 9});
        alone(rule, WIDOW, 0, new int[] {0, 2, 4, 6, 8, 10}, new int[] {9, 9, 9, 9, 9, 9});
        alone(rule, POET, 3, new int[] {0, 4, 8, 12, 16, 20}, new int[] {27, 27, 27, 27, 27, 27});
        alone(rule, AUNT, 0, new int[] {0, 1, 2, 3, 4, 5}, new int[] {4, 4, 4, 4, 4, 4});
        alone(rule, LOVER, 1, new int[] {0, 5, 10, 15, 20, 20}, new int[] {27, 27, 0, 0, 0, 0});
        alone(rule, LOVER, 2, new int[] {0, 6, 12, 18, 20, 20}, new int[] {27, 0, 0, 0, 0, 0});
        alone(rule, FOOL, 3, new int[] {0, 0, 0, 0, 0, 0}, new int[] {0, 0, 0, 0, 0, 0});
    }

    private static void widowsWait() {
        RatedBySighs x = new RatedBySighs();
        x.tenant(WIDOW, 3, 0);
        x.tenant(AUNT, 3, 0);
        x.set(0, 0, 29);
        CHECK.due("a widow ahead of her time", x.told(0, 20), 0);
        CHECK.due("an aunt ahead of her time", x.told(1, 20), 0);
        x.set(0, 0, 30);
        CHECK.due("a widow in her time", x.told(0, 20), 5);
        CHECK.due("an aunt in her time", x.told(1, 20), 2);
    }

    private static void swaysOfKinds() {
        String rule = "sighs 0; moods 0-3; pays mood;";
        int[] none = {0, 0, 0, 0, 0, 0};
        alone(rule, TENANT, 0, new int[] {0, -3, -6, -9, -12, -15}, none);
        alone(rule, WIDOW, 9, new int[] {0, -3, -6, -9, -12, -15}, none);
        alone(rule, POET, 9, new int[] {0, -6, -12, -18, -20, -20}, none);
        alone(rule, AUNT, 9, new int[] {0, -4, -8, -12, -16, -20}, none);
        alone(rule, LOVER, 9, new int[] {0, 3, 6, 9, 12, 15}, none);
        alone(rule, FOOL, 9, none, none);
    }

    private static void swaysWithFools() {
        RatedBySighs x = new RatedBySighs();
        for (int kind = 0; kind < 6; kind++) {
            x.tenant(kind, 1, 2);
        }
        x.tenant(FOOL, 0, 2);
        x.tenant(FOOL, 0, 3);
        // One of the two fools is out in hour 1, and one of another house never counts.
        x.set(4, 6, 2);
        int[] behindHour0 = {2, 0, 4, -1, 5, 0, 0};
        int[] behindHour1 = {3, 0, 6, -2, 8, 0, 1};
        for (int one = 0; one < 7; one++) {
            CHECK.due("behind hour 0, kind " + one, x.told(one, 11), behindHour0[one]);
            CHECK.due("behind hour 1, kind " + one, x.told(one, 12), behindHour1[one]);
        }
    }

    private static void outInHours() {
        RatedBySighs x = new RatedBySighs();
        x.tenant(TENANT, 0, 0);
        x.set(3, 0, -2);
        x.set(4, 0, 0b100101);
        hours("out", x, 0, new int[] {-2, -1, -1, 0, 0, 0}, new int[] {0, 6, 0, 5, 5, 0});
        x.set(3, 0, 19);
        x.set(4, 0, 63);
        hours("always out", x, 0, new int[] {19, 20, 20, 20, 20, 20}, new int[6]);
        x.tenant(FOOL, 0, 0);
        x.set(4, 1, 3);
        hours("a fool out", x, 1, new int[] {0, 1, 2, 2, 2, 2}, new int[6]);
    }

    private static void bounds() {
        int[] far = {0, 9, 18, 20, 20, 20};
        int[] deep = {0, -9, -18, -20, -20, -20};
        alone("sighs 100; moods 10; pays 0;", TENANT, 0, far, new int[] {99, 99, 99, 99, 99, 99});
        alone("sighs 99; moods 9; pays 0;", TENANT, 0, far, new int[] {99, 99, 99, 99, 99, 99});
        alone("sighs -1; moods -10; pays 0;", TENANT, 0, deep, new int[6]);
        alone("sighs 9999; moods -9; pays 0;", POET, 0, new int[] {0, -18, -20, -20, -20, -20},
            new int[] {297, 297, 297, 297, 297, 297});
    }

    private static void toldRefuses() {
        RatedBySighs x = new RatedBySighs();
        x.tenant(0, 0, 0);
        int[] whats = {-1, 7, 8, 9, 16, 19, 26, Integer.MIN_VALUE, Integer.MAX_VALUE};
        for (int what : whats) {
            CHECK.due("told " + what, x.told(0, what), -100);
        }
        int[] ones = {-1, 1, 7, 8, Integer.MIN_VALUE, Integer.MAX_VALUE};
        for (int one : ones) {
            for (int what : new int[] {1, 2, 3, 4, 5, 6, 10, 20}) {
                CHECK.due("told of " + one + ", " + what, x.told(one, what), -100);
            }
        }
    }
}
