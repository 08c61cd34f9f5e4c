/** Terms 1 (people) and promises 1 to 4: each sentence that names an edge, by itself. */
public final class EdgesOfPeopleTest {
    private static final Check CHECK = new Check("EdgesOfPeopleTest");
    private static final int FAR = Integer.MAX_VALUE, DEEP = Integer.MIN_VALUE;
    private static final int TENANT = 0, WIDOW = 1, POET = 2, AUNT = 3, LOVER = 4, FOOL = 5;

    public static void main(String[] args) {
        newObject();
        houses();
        hours();
        theNight();
        people();
        kinds();
        numbers();
        moods();
        outs();
        toldOfNoSuch();
        sighsOfWidows();
        sighsOfPoets();
        sighsOfAunts();
        sighsOfLovers();
        sighsOfFools();
        swaysWithoutFools();
        swaysWithSevenFools();
        boundsOfMood();
        outAtTheBound();
        exempt();
        CHECK.end();
    }

    private static void newObject() {
        RatedBySighs x = new RatedBySighs();
        CHECK.says("RatedBySighs(): No PEOPLE.");
        CHECK.due("people", x.count(0), 0);
        CHECK.due("fools", x.count(1), 0);
        CHECK.due("the first to come", x.tenant(0, 0, 0), 0);
        CHECK.says("THE NIGHT (0 at first)");
        CHECK.due("night", new RatedBySighs().count(2), 0);
        CHECK.says("PAID: a number (0 at first)");
        CHECK.due("paid", new RatedBySighs().count(3), 0);
        CHECK.says("TEXT 0 with them");
        CHECK.due("texts", new RatedBySighs().count(4), 1);
        CHECK.due("the tape", new RatedBySighs().count(5), 0);
        CHECK.says("TEXT 0, at first THE RULE");
        CHECK.due("the rule", new RatedBySighs().count(6), 0);
        CHECK.says("or missing (as all are at first)");
        for (int sheet = 0; sheet < 4; sheet++) {
            CHECK.due("sheet " + sheet, new RatedBySighs().cell(sheet, 0, 0), -11);
        }
    }

    private static void houses() {
        CHECK.says("HOUSES 0 .. 4");
        RatedBySighs x = new RatedBySighs();
        for (int house = 0; house < 5; house++) {
            CHECK.due("tenant in " + house, x.tenant(0, 0, house), house);
            CHECK.due("lives in " + house, x.told(house, 2), house);
            CHECK.due("due of " + house, x.due(house), 30);
            CHECK.due("moves to " + house, x.set(2, 0, house), Math.max(0, house - 1));
        }
        for (int house : new int[] {-1, 5, FAR, DEEP}) {
            CHECK.due("tenant in " + house, x.tenant(0, 0, house), -2);
            CHECK.due("moves to " + house, x.set(2, 0, house), -100);
            CHECK.due("reed of " + house, x.reed(house, 0), -2);
        }
        CHECK.due("still in 4", x.told(0, 2), 4);
    }

    private static void hours() {
        CHECK.says("HOURS 0 .. 5 of a night");
        RatedBySighs x = Check.ruled("sighs hour+1;moods 1;pays 0;");
        x.tenant(TENANT, 0, 0);
        for (int hour = 0; hour < 6; hour++) {
            CHECK.due("mood in " + hour, x.told(0, 10 + hour), hour);
            CHECK.due("sighs in " + hour, x.told(0, 20 + hour), hour + 1);
            CHECK.due("reed in " + hour, x.reed(0, hour), hour + 1);
        }
        for (int hour : new int[] {-1, 6, FAR, DEEP}) {
            CHECK.due("reed in " + hour, x.reed(0, hour), -2);
        }
        for (int what : new int[] {9, 16, 19, 26, FAR, DEEP}) {
            CHECK.due("told " + what, x.told(0, what), -100);
        }
    }

    private static void theNight() {
        CHECK.says("THE NIGHT (0 .. 999)");
        RatedBySighs x = new RatedBySighs();
        CHECK.due("to 0", x.set(0, 0, 0), 0);
        CHECK.due("to 999", x.set(0, 0, 999), 0);
        for (int night : new int[] {-1, 1000, FAR, DEEP}) {
            CHECK.due("to " + night, x.set(0, 0, night), -100);
        }
        CHECK.due("still 999", x.set(0, 0, 1), 999);
        CHECK.says("THE NIGHT (what 0; of does not matter)");
        for (int of : new int[] {-1, 0, 8, FAR, DEEP}) {
            CHECK.due("set of " + of, x.set(0, of, 7), of == -1 ? 1 : 7);
            CHECK.due("told of " + of, x.told(of, 0), 7);
        }
        CHECK.says("-100: what, of, v");
        for (int what : new int[] {-1, 5, 6, FAR, DEEP}) {
            x.tenant(TENANT, 0, 0);
            CHECK.due("set " + what, x.set(what, 0, 0), -100);
        }
    }

    private static void people() {
        CHECK.says("PEOPLE (8 at most, numbered from 0)");
        RatedBySighs x = new RatedBySighs();
        for (int one = 0; one < 8; one++) {
            CHECK.due("nobody yet", x.told(one, 5), -100);
            CHECK.due("who comes", x.tenant(TENANT, one, 0), one);
            CHECK.due("is there", x.told(one, 1), one);
        }
        CHECK.says("BAD; FULL");
        CHECK.due("a ninth", x.tenant(TENANT, 0, 0), -4);
        CHECK.due("a ninth", x.tenant(FOOL, 9, 4), -4);
        CHECK.due("a bad ninth", x.tenant(6, 0, 0), -2);
        CHECK.due("a bad ninth", x.tenant(0, 10, 0), -2);
        CHECK.due("a bad ninth", x.tenant(0, 0, 5), -2);
        CHECK.due("eight", x.count(0), 8);
        CHECK.due("no ninth", x.told(8, 5), -100);
    }

    private static void kinds() {
        CHECK.says("a KIND: 0 TENANT .. 5 FOOL");
        RatedBySighs x = new RatedBySighs();
        for (int kind : new int[] {-1, 6, FAR, DEEP}) {
            CHECK.due("of kind " + kind, x.tenant(kind, 0, 0), -2);
        }
        for (int kind = 0; kind < 6; kind++) {
            CHECK.due("of kind " + kind, x.tenant(kind, 0, 0), kind);
            CHECK.due("its kind", x.told(kind, 5), kind);
        }
    }

    private static void numbers() {
        CHECK.says("a NUMBER (0 .. 9)");
        RatedBySighs x = new RatedBySighs();
        CHECK.due("0", x.tenant(0, 0, 0), 0);
        CHECK.due("9", x.tenant(0, 9, 0), 1);
        CHECK.due("0 stands", x.told(0, 1), 0);
        CHECK.due("9 stands", x.told(1, 1), 9);
        CHECK.due("0 to 9", x.set(1, 0, 9), 0);
        CHECK.due("9 to 0", x.set(1, 0, 0), 9);
        for (int number : new int[] {-1, 10, FAR, DEEP}) {
            CHECK.due("comes with " + number, x.tenant(0, number, 0), -2);
            CHECK.due("set to " + number, x.set(1, 1, number), -100);
        }
        CHECK.due("9 yet", x.told(1, 1), 9);
        CHECK.due("two", x.count(0), 2);
    }

    private static void moods() {
        CHECK.says("a MOOD (-20 .. 20; 0 as one comes)");
        RatedBySighs x = new RatedBySighs();
        x.tenant(TENANT, 9, 4);
        CHECK.due("as one comes", x.told(0, 3), 0);
        CHECK.due("to -20", x.set(3, 0, -20), 0);
        CHECK.due("to 20", x.set(3, 0, 20), -20);
        for (int mood : new int[] {-21, 21, FAR, DEEP}) {
            CHECK.due("to " + mood, x.set(3, 0, mood), -100);
        }
        CHECK.due("20 yet", x.told(0, 3), 20);
    }

    private static void outs() {
        CHECK.says("OUT in some HOURS (bits 0 .. 5; none as one comes)");
        RatedBySighs x = new RatedBySighs();
        x.tenant(TENANT, 9, 4);
        CHECK.due("as one comes", x.told(0, 4), 0);
        int was = 0;
        for (int hour = 0; hour < 6; hour++) {
            CHECK.due("out in " + hour, x.set(4, 0, 1 << hour), was);
            was = 1 << hour;
            for (int other = 0; other < 6; other++) {
                int sighs = other == hour ? 0 : other < hour ? 5 : 4;
                CHECK.due("out in " + hour + ", sighs in " + other, x.told(0, 20 + other), sighs);
            }
        }
        CHECK.due("out in all", x.set(4, 0, 63), 32);
        for (int out : new int[] {-1, 64, 127, FAR, DEEP}) {
            CHECK.due("to " + out, x.set(4, 0, out), -100);
        }
        CHECK.due("out in all yet", x.told(0, 4), 63);
        CHECK.due("out in none", x.set(4, 0, 0), 63);
    }

    private static void toldOfNoSuch() {
        CHECK.says("-100: none such");
        RatedBySighs x = new RatedBySighs();
        x.tenant(FOOL, 1, 1);
        for (int what : new int[] {-1, 7, 8, 9, 16, 17, 18, 19, 26, FAR, DEEP}) {
            CHECK.due("what " + what, x.told(0, what), -100);
        }
        for (int of : new int[] {-1, 1, 8, FAR, DEEP}) {
            for (int what : new int[] {1, 2, 3, 4, 5, 6, 10, 15, 20, 25}) {
                CHECK.due("of " + of + " what " + what, x.told(of, what), -100);
            }
            for (int what = 1; what < 5; what++) {
                CHECK.due("set of " + of + " what " + what, x.set(what, of, 0), -100);
            }
        }
    }

    private static int sighsIn(int night, int mood, int kind, int number, int v) {
        RatedBySighs x = Check.ruled("sighs " + v + ";moods 0;pays 0;");
        x.tenant(kind, number, 2);
        x.set(0, 0, night);
        x.set(3, 0, mood);
        return x.told(0, 20);
    }

    private static void sighsOfWidows() {
        CHECK.says("WIDOW: 0, if THE NIGHT is below 10 times NUMBER, else as a TENANT");
        CHECK.due("number 0 in night 0", sighsIn(0, 0, WIDOW, 0, 7), 7);
        for (int number = 1; number < 10; number++) {
            CHECK.due("number " + number + " ahead", sighsIn(10 * number - 1, 0, WIDOW, number, 7), 0);
            CHECK.due("number " + number + " then", sighsIn(10 * number, 0, WIDOW, number, 7), 7);
        }
        CHECK.due("number 9 in night 999", sighsIn(999, 0, WIDOW, 9, 7), 7);
    }

    private static void sighsOfPoets() {
        CHECK.says("POET: three times a TENANT's");
        CHECK.due("of none", sighsIn(0, 0, POET, 9, 0), 0);
        CHECK.due("of one", sighsIn(0, 20, POET, 9, 1), 3);
        CHECK.says("SIGHS 0 .. 999");
        CHECK.due("of 99: the most that anyone sighs", sighsIn(0, 0, POET, 9, 99), 297);
    }

    private static void sighsOfAunts() {
        CHECK.says("AUNT: half (cut) of a WIDOW's");
        int[][] rows = {{0, 0}, {1, 0}, {2, 1}, {3, 1}, {98, 49}, {99, 49}};
        for (int[] row : rows) {
            CHECK.due("half of " + row[0], sighsIn(0, 0, AUNT, 0, row[0]), row[1]);
        }
        CHECK.due("number 9 in night 89", sighsIn(89, 0, AUNT, 9, 99), 0);
        CHECK.due("number 9 in night 90", sighsIn(90, 0, AUNT, 9, 99), 49);
    }

    private static void sighsOfLovers() {
        CHECK.says("LOVER: as a POET, but 0, if m is above 5");
        int[][] rows = {{-20, 21}, {0, 21}, {4, 21}, {5, 21}, {6, 0}, {20, 0}};
        for (int[] row : rows) {
            CHECK.due("in mood " + row[0], sighsIn(0, row[0], LOVER, 9, 7), row[1]);
        }
        CHECK.says("in MOOD m: the MOOD in that HOUR");
        RatedBySighs x = Check.ruled("sighs 7;moods 1;pays 0;");
        x.tenant(LOVER, 0, 0);
        x.set(3, 0, 3);
        int[] sighs = {21, 21, 0, 0, 0, 0};
        for (int hour = 0; hour < 6; hour++) {
            CHECK.due("moods 3, 5, 7 ..: in hour " + hour, x.told(0, 20 + hour), sighs[hour]);
        }
    }

    private static void sighsOfFools() {
        CHECK.says("FOOL: 0");
        for (int mood : new int[] {-20, 0, 20}) {
            CHECK.due("in mood " + mood, sighsIn(999, mood, FOOL, 0, 99), 0);
        }
    }

    /** The moods in six hours, of one who comes home in a mood and has some fools beside. */
    private static void course(String who, int kind, int number, int mood, int v, int fools, int... moods) {
        RatedBySighs x = Check.ruled("sighs 0;moods 0-" + (9 - v) + "+9;pays 0;");
        x.tenant(kind, number, 3);
        x.set(3, 0, mood);
        for (int i = 0; i < fools; i++) {
            x.tenant(FOOL, 9, 3);
        }
        for (int hour = 0; hour < 6; hour++) {
            CHECK.due(who + ", moods " + v + ", fools " + fools + ": hour " + hour, x.told(0, 10 + hour), moods[hour]);
        }
    }

    private static void swaysWithoutFools() {
        CHECK.says("SWAYS: TENANT: v and f");
        course("tenant", TENANT, 9, 0, 0, 0, 0, 0, 0, 0, 0, 0);
        course("tenant", TENANT, 9, 0, -9, 0, 0, -9, -18, -20, -20, -20);
        course("tenant", TENANT, 9, 0, 9, 0, 0, 9, 18, 20, 20, 20);
        CHECK.says("SWAYS: WIDOW: v");
        course("widow", WIDOW, 9, 0, -3, 0, 0, -3, -6, -9, -12, -15);
        CHECK.says("SWAYS: POET: twice a TENANT's");
        course("poet", POET, 9, 0, -3, 0, 0, -6, -12, -18, -20, -20);
        course("poet", POET, 9, 0, 3, 0, 0, 6, 12, 18, 20, 20);
        CHECK.says("SWAYS: AUNT: 1 less than a WIDOW");
        course("aunt", AUNT, 9, 0, 0, 0, 0, -1, -2, -3, -4, -5);
        course("aunt", AUNT, 9, 0, -9, 0, 0, -10, -20, -20, -20, -20);
        course("aunt", AUNT, 9, 0, 1, 0, 0, 0, 0, 0, 0, 0);
        CHECK.says("SWAYS: LOVER: NUMBER more than a POET");
        course("lover", LOVER, 0, 0, 2, 0, 0, 4, 8, 12, 16, 20);
        course("lover", LOVER, 9, 0, -9, 0, 0, -9, -18, -20, -20, -20);
        course("lover", LOVER, 1, 0, 0, 0, 0, 1, 2, 3, 4, 5);
        CHECK.says("SWAYS: FOOL: 0");
        course("fool", FOOL, 9, 3, 9, 0, 3, 3, 3, 3, 3, 3);
        course("fool", FOOL, 9, -3, -9, 0, -3, -3, -3, -3, -3, -3);
    }

    private static void swaysWithSevenFools() {
        CHECK.says("f FOOLS being with one: seven at most");
        course("tenant", TENANT, 9, 0, -9, 7, 0, -2, -4, -6, -8, -10);
        course("tenant", TENANT, 9, -20, 9, 7, -20, -4, 12, 20, 20, 20);
        course("widow", WIDOW, 9, 0, -2, 7, 0, -2, -4, -6, -8, -10);
        course("poet", POET, 9, 0, -9, 7, 0, -4, -8, -12, -16, -20);
        course("aunt", AUNT, 9, 0, 0, 7, 0, -1, -2, -3, -4, -5);
        course("lover", LOVER, 1, 0, -9, 7, 0, -3, -6, -9, -12, -15);
        course("fool", FOOL, 9, 0, 0, 7, 0, 0, 0, 0, 0, 0);
        course("tenant", TENANT, 0, 0, 0, 1, 0, 1, 2, 3, 4, 5);
    }

    private static void boundsOfMood() {
        CHECK.says("MOOD -20 .. 20, else the bound");
        course("to 20", TENANT, 0, 19, 1, 0, 19, 20, 20, 20, 20, 20);
        course("above 20", TENANT, 0, 19, 2, 0, 19, 20, 20, 20, 20, 20);
        course("to -20", TENANT, 0, -19, -1, 0, -19, -20, -20, -20, -20, -20);
        course("below -20", TENANT, 0, -19, -2, 0, -19, -20, -20, -20, -20, -20);
        course("far above 20", LOVER, 9, 20, 9, 7, 20, 20, 20, 20, 20, 20);
        course("far below -20", POET, 0, -20, -9, 0, -20, -20, -20, -20, -20, -20);
        course("from one bound to the other", LOVER, 9, -20, 9, 7, -20, 20, 20, 20, 20, 20);
    }

    private static void outAtTheBound() {
        CHECK.says("who is OUT has MOOD 1 more");
        for (int kind = 0; kind < 6; kind++) {
            RatedBySighs x = Check.ruled("sighs 9;moods 0-9;pays 0;");
            x.tenant(kind, 9, 0);
            x.tenant(FOOL, 0, 0);
            x.set(4, 0, 63);
            x.set(3, 0, 18);
            for (int hour = 0; hour < 6; hour++) {
                CHECK.due("kind " + kind + " in " + hour, x.told(0, 10 + hour), Math.min(20, 18 + hour));
                CHECK.due("kind " + kind + " sighs in " + hour, x.told(0, 20 + hour), 0);
            }
            x.set(3, 0, -20);
            CHECK.due("kind " + kind + " from -20", x.told(0, 15), -15);
        }
    }

    private static int isExempt(int night, int kind, int number) {
        RatedBySighs x = new RatedBySighs();
        x.set(0, 0, night);
        x.tenant(kind, number, 0);
        return x.told(0, 6);
    }

    private static void exempt() {
        for (int night : new int[] {0, 1, 998, 999}) {
            CHECK.says("WIDOW: if NUMBER is above 4");
            CHECK.due("number 4", isExempt(night, WIDOW, 4), 0);
            CHECK.due("number 5", isExempt(night, WIDOW, 5), 1);
            CHECK.due("number 0", isExempt(night, WIDOW, 0), 0);
            CHECK.due("number 9", isExempt(night, WIDOW, 9), 1);
            CHECK.says("AUNT: as a WIDOW, or if THE NIGHT is odd");
            CHECK.due("number 4 in " + night, isExempt(night, AUNT, 4), night % 2);
            CHECK.due("number 5 in " + night, isExempt(night, AUNT, 5), 1);
            CHECK.says("TENANT: no; POET: no; LOVER: no; FOOL: yes");
            for (int number : new int[] {0, 4, 5, 9}) {
                CHECK.due("tenant " + number, isExempt(night, TENANT, number), 0);
                CHECK.due("poet " + number, isExempt(night, POET, number), 0);
                CHECK.due("lover " + number, isExempt(night, LOVER, number), 0);
                CHECK.due("fool " + number, isExempt(night, FOOL, number), 1);
            }
        }
    }
}
