/** Terms 2 (a night, what would be best) and promises 8 to 17: each sentence that names an edge, by itself. */
public final class EdgesOfNightsTest {
    private static final Check CHECK = new Check("EdgesOfNightsTest");
    private static final int FAR = Integer.MAX_VALUE, DEEP = Integer.MIN_VALUE;
    private static final int[] NEITHER_0_NOR_1 = {-1, 2, 3, FAR, DEEP};
    private static final int TENANT = 0, WIDOW = 1, POET = 2, AUNT = 3, LOVER = 4, FOOL = 5;

    public static void main(String[] args) {
        courseOfANight();
        together();
        reed();
        due();
        night();
        lastNight();
        paidOverNights();
        loudest();
        cost();
        cheer();
        cheerNone();
        cart();
        few();
        fewNone();
        move();
        moveNone();
        change();
        changeNone();
        onlyInThought();
        CHECK.end();
    }

    private static RatedBySighs borough(String rule, int... triples) {
        RatedBySighs x = Check.ruled(rule);
        for (int i = 0; i < triples.length; i += 3) {
            x.tenant(triples[i], triples[i + 1], triples[i + 2]);
        }
        return x;
    }

    // ---- a night

    private static void courseOfANight() {
        CHECK.says("HOUR by HOUR, all in MOODS in which they come home at first");
        RatedBySighs x = borough("sighs mood;moods 0;pays 0;", TENANT, 0, 0, TENANT, 0, 4);
        x.set(3, 0, 20);
        x.set(3, 1, 1);
        CHECK.due("in hour 0", x.told(0, 20), 20);
        CHECK.due("in hour 0, another", x.told(1, 20), 1);
        CHECK.says("told with the MOOD in which one SIGHED");
        x = borough("sighs mood;moods 2*(mood<4)+(mood=4);pays 0;", TENANT, 0, 0);
        int[] moods = {0, 2, 4, 5, 5, 5};
        for (int hour = 0; hour < 6; hour++) {
            CHECK.due("mood in " + hour, x.told(0, 10 + hour), moods[hour]);
            CHECK.due("sighs in " + hour, x.told(0, 20 + hour), moods[hour]);
        }
        CHECK.says("f FOOLS being in that HOUSE in that HOUR, oneself aside");
        x = borough("sighs 0;moods 0;pays 0;", TENANT, 0, 2, FOOL, 0, 2, FOOL, 0, 3, FOOL, 0, 2);
        x.set(4, 1, 0b000110);
        x.set(4, 3, 0b110010);
        int[] beside = {0, 2, 2, 3, 5, 6};
        for (int hour = 0; hour < 6; hour++) {
            CHECK.due("with fools, mood in " + hour, x.told(0, 10 + hour), beside[hour]);
        }
    }

    private static void together() {
        CHECK.says("REED of a HOUSE in an HOUR: all SIGHS there, together");
        RatedBySighs x = Check.ruled("sighs 99;moods 0;pays 9999;");
        for (int i = 0; i < 8; i++) {
            CHECK.due(i + " poets", x.reed(4, 5), 297 * i);
            x.tenant(POET, 0, 4);
        }
        CHECK.due("eight poets", x.reed(4, 5), 2376);
        CHECK.due("an empty house", x.reed(3, 5), 0);
        x.set(4, 7, 32);
        CHECK.due("one of eight out", x.reed(4, 5), 2079);
        CHECK.due("and in another hour not", x.reed(4, 4), 2376);
        CHECK.says("ALL: DUE of all HOUSES, together");
        CHECK.due("five times the most", x.due(-1), 49995);
        CHECK.due("of one", x.due(0), 9999);
    }

    private static void reed() {
        CHECK.says("REED of a HOUSE in an HOUR. BAD.");
        RatedBySighs x = borough("sighs 1;moods 0;pays 0;", TENANT, 0, 0, TENANT, 0, 4);
        CHECK.due("the first", x.reed(0, 0), 1);
        CHECK.due("the last", x.reed(4, 5), 1);
        for (int wrong : new int[] {-1, FAR, DEEP}) {
            CHECK.due("house " + wrong, x.reed(wrong, 0), -2);
            CHECK.due("hour " + wrong, x.reed(0, wrong), -2);
        }
        CHECK.due("house 5", x.reed(5, 0), -2);
        CHECK.due("hour 6", x.reed(0, 6), -2);
        CHECK.due("house and hour", x.reed(5, 6), -2);
    }

    private static void due() {
        CHECK.says("DUE of a HOUSE (NONE: ALL). BAD.");
        RatedBySighs x = Check.ruled("sighs 0;moods 0;pays 10+house;");
        for (int house = 0; house < 5; house++) {
            CHECK.due("house " + house, x.due(house), 10 + house);
        }
        CHECK.due("all", x.due(RatedBySighs.NONE), 60);
        for (int house : new int[] {-2, 5, FAR, DEEP}) {
            CHECK.due("house " + house, x.due(house), -2);
        }
    }

    private static void night() {
        CHECK.says("TRULY: ALL comes to PAID, THE NIGHT is 1 more");
        RatedBySighs x = borough("sighs 2;moods 3;pays mood;", TENANT, 0, 0, LOVER, 9, 1);
        x.set(3, 0, -7);
        x.set(4, 0, 1);
        CHECK.due("the first night", x.night(), 10 + 6);
        CHECK.due("paid", x.count(3), 16);
        CHECK.due("night", x.count(2), 1);
        CHECK.says("all come home as they did");
        CHECK.due("mood", x.told(0, 3), -7);
        CHECK.due("out", x.told(0, 4), 1);
        CHECK.due("mood of another", x.told(1, 3), 0);
        CHECK.due("the same once more", x.night(), 16);
        CHECK.due("paid", x.count(3), 32);
        CHECK.says("TRULY: by THE NIGHT as it was");
        x = borough("sighs 2;moods 0;pays mood;", WIDOW, 1, 0);
        x.set(0, 0, 9);
        CHECK.due("night 9", x.night(), 0);
        CHECK.due("night 10", x.night(), 12);
    }

    private static void lastNight() {
        CHECK.says("STATE: THE NIGHT is 999");
        RatedBySighs x = borough("sighs 2;moods 0;pays mood;", TENANT, 0, 0);
        x.set(0, 0, 998);
        CHECK.due("night 998", x.night(), 12);
        CHECK.due("night 999", x.night(), -3);
        CHECK.due("once more", x.night(), -3);
        CHECK.due("the night yet", x.count(2), 999);
        CHECK.due("paid yet", x.count(3), 12);
        x.set(0, 0, 998);
        CHECK.due("night 998 again", x.night(), 12);
        CHECK.due("paid", x.count(3), 24);
    }

    /** No 512 calls reach that bound: what can be seen is that nothing is cut short of it. */
    private static void paidOverNights() {
        CHECK.says("ALL comes to PAID (999999999 at most)");
        RatedBySighs x = Check.ruled("sighs 0;moods 0;pays 9999;");
        for (int i = 1; i < 450; i++) {
            CHECK.due("night " + i, x.night(), 49995);
        }
        CHECK.due("paid", x.count(3), 449 * 49995);
    }

    private static void loudest() {
        CHECK.says("LOUDEST: 10 times the HOUSE, and the HOUR of most REED");
        RatedBySighs x = new RatedBySighs();
        CHECK.due("of nobody", x.loudest(0), 0);
        CHECK.due("of nobody, its reed", x.loudest(1), 0);
        x = borough("sighs (hour=5)*9;moods 0;pays 0;", TENANT, 0, 4);
        CHECK.due("the last house and hour", x.loudest(0), 45);
        CHECK.due("its reed", x.loudest(1), 9);
        CHECK.says("LOUDEST: of like ones the first");
        x = borough("sighs 3*(hour=1 or hour=4);moods 0;pays 0;", TENANT, 0, 3);
        CHECK.due("the first hour", x.loudest(0), 31);
        x.tenant(TENANT, 0, 1);
        CHECK.due("the first house", x.loudest(0), 11);
        x.set(4, 1, 2);
        CHECK.due("a later hour of an earlier house", x.loudest(0), 14);
        x.tenant(WIDOW, 0, 3);
        CHECK.due("more", x.loudest(0), 31);
        CHECK.due("more, its reed", x.loudest(1), 6);
        CHECK.says("LOUDEST (what 0), its REED (1). BAD.");
        for (int what : NEITHER_0_NOR_1) {
            CHECK.due("what " + what, x.loudest(what), -2);
        }
    }

    private static void cost() {
        CHECK.says("COST of one: ALL less ALL without that one (gone from the borough)");
        RatedBySighs x = borough("sighs 2;moods 0;pays mood+100*others;", TENANT, 0, 0);
        CHECK.due("of one alone", x.cost(0), 112);
        x.tenant(FOOL, 0, 0);
        CHECK.due("of a fool, who counts as living there", x.cost(1), 100);
        x.set(4, 0, 63);
        CHECK.due("of one who is out, and lives there", x.cost(0), 100);
        CHECK.says("COST below 0");
        x = borough("sighs 10-5*others;moods 0;pays mood;", TENANT, 0, 2, FOOL, 0, 2);
        CHECK.due("of one who is a comfort", x.cost(1), 30 - 60);
        x = borough("sighs 0;moods 0;pays 9999*(others=0);", TENANT, 0, 0);
        CHECK.due("of one in an empty borough", x.cost(0), -9999);
        CHECK.says("-100000: none such");
        for (int one : new int[] {-1, 1, 7, 8, FAR, DEEP}) {
            CHECK.due("of " + one, x.cost(one), -100000);
        }
        CHECK.due("of one in an empty object", new RatedBySighs().cost(0), -100000);
        x = borough("sighs number;moods 0;pays mood;", TENANT, 1, 0, TENANT, 2, 0, TENANT, 3, 1, TENANT, 4, 1,
            TENANT, 5, 2, TENANT, 6, 3, TENANT, 7, 4, TENANT, 8, 4);
        for (int one = 0; one < 8; one++) {
            CHECK.due("of " + one + " of eight", x.cost(one), 6 * (one + 1));
        }
    }

    // ---- what would be best

    private static void best(String what, int which, int all, int wantWhich, int wantAll) {
        CHECK.due(what, which, wantWhich);
        CHECK.due(what + ", ALL then", all, wantAll);
    }

    private static void cheer() {
        CHECK.says("CHEER: the FOOL and the HOUSE to which it should move, so that ALL would be least");
        String rule = "sighs 10-fools;moods 0-fools;pays mood;";
        RatedBySighs x = borough(rule, TENANT, 0, 4, TENANT, 0, 4, FOOL, 0, 0);
        best("to the last house", x.cheer(0), x.cheer(1), 24, 108);
        x = borough(rule, FOOL, 0, 3, TENANT, 0, 0, TENANT, 0, 1);
        best("of like houses the first", x.cheer(0), x.cheer(1), 0, 114);
        x = borough(rule, TENANT, 0, 1, FOOL, 0, 3, FOOL, 0, 4);
        best("of like fools the first", x.cheer(0), x.cheer(1), 11, 54);
        x.set(4, 1, 1);
        best("a later fool who saves more", x.cheer(0), x.cheer(1), 21, 54);
        CHECK.says("CHEER: if less than now");
        x = borough(rule, TENANT, 0, 1, FOOL, 0, 1, TENANT, 0, 2);
        best("where it is as good", x.cheer(0), x.cheer(1), -1, 114);
        CHECK.says("CHEER: as now, if none");
        for (int what : NEITHER_0_NOR_1) {
            CHECK.due("what " + what, x.cheer(what), -2);
        }
    }

    private static void cheerNone() {
        CHECK.says("CHEER: of all FOOLS: NONE");
        RatedBySighs x = borough("sighs others;moods 0;pays mood;", TENANT, 0, 0, POET, 0, 0, WIDOW, 0, 1);
        best("no fool, though to move would save", x.cheer(0), x.cheer(1), -1, 6 + 18);
        x = Check.ruled("sighs 0;moods 0;pays 1;");
        best("nobody", x.cheer(0), x.cheer(1), -1, 5);
        x.tenant(FOOL, 0, 0);
        best("a fool with nobody to cheer", x.cheer(0), x.cheer(1), -1, 5);
        x = borough("sighs 5;moods 0;pays mood;", TENANT, 0, 0, FOOL, 0, 1);
        x.set(4, 1, 63);
        best("a fool who is never there", x.cheer(0), x.cheer(1), -1, 30);
        x = borough("sighs 0;moods 0;pays 100-20*others;", FOOL, 0, 0, FOOL, 0, 0, FOOL, 0, 0, FOOL, 0, 0, FOOL, 0, 0,
            FOOL, 0, 0, FOOL, 0, 0, FOOL, 0, 0);
        best("eight fools, three too many", x.cheer(0), x.cheer(1), 1, 380);
    }

    private static void cart() {
        CHECK.says("CART: 10 times one, and the HOUR in which, were one OUT, too, ALL would be least, if less");
        RatedBySighs x = borough("sighs (hour=5)+1;moods 0;pays mood;", TENANT, 0, 2);
        best("the last hour", x.cart(0), x.cart(1), 5, 5);
        x.set(4, 0, 32);
        best("OUT, too: in the others", x.cart(0), x.cart(1), 0, 4);
        x.set(4, 0, 62);
        best("the one that is left", x.cart(0), x.cart(1), 0, 0);
        x.set(4, 0, 63);
        best("none is left", x.cart(0), x.cart(1), -1, 0);
        CHECK.says("CART: of like ones the first");
        x = borough("sighs 1;moods 0;pays mood;", FOOL, 0, 0, TENANT, 0, 4, TENANT, 0, 3);
        best("one 1, hour 0", x.cart(0), x.cart(1), 10, 11);
        x.set(1, 2, 9);
        x.tenant(POET, 0, 3);
        best("who sighs more", x.cart(0), x.cart(1), 30, 27);
        CHECK.says("CART: NONE");
        x = Check.ruled("sighs 1;moods 0;pays 3;");
        best("nobody", x.cart(0), x.cart(1), -1, 15);
        x.tenant(TENANT, 0, 0);
        best("one by whom nothing is paid", x.cart(0), x.cart(1), -1, 15);
        x = borough("sighs mood;moods 0-1;pays mood;", TENANT, 0, 0);
        x.set(3, 0, 5);
        // 5 4 3 2 1 0; out in an hour, one comes back in a better mood, and sighs the more.
        best("nothing saved in any hour", x.cart(0), x.cart(1), -1, 15);
        CHECK.says("cart: BAD");
        for (int what : NEITHER_0_NOR_1) {
            CHECK.due("what " + what, x.cart(what), -2);
        }
    }

    private static void few() {
        CHECK.says("FEW (one, k): the fewest HOURS (bits; of like ones the least as bits)");
        RatedBySighs x = borough("sighs 1;moods 0;pays mood;", TENANT, 0, 1);
        int[] bits = {63, 31, 15, 7, 3, 1, 0};
        for (int k = 0; k < 7; k++) {
            CHECK.due("k " + k, x.few(0, k), bits[k]);
        }
        CHECK.due("k 9999", x.few(0, 9999), 0);
        x = borough("sighs (hour=5)*5+1;moods 0;pays mood;", TENANT, 0, 1);
        CHECK.due("one hour, though greater as bits", x.few(0, 5), 32);
        CHECK.due("two hours", x.few(0, 4), 33);
        CHECK.due("one hour, the least", x.few(0, 10), 1);
        CHECK.due("just k", x.few(0, 11), 0);
        CHECK.says("were one OUT just then");
        x.set(4, 0, 63);
        CHECK.due("out always, now", x.few(0, 11), 0);
        CHECK.due("out always, now", x.few(0, 10), 1);
        CHECK.due("out as it was", x.told(0, 4), 63);
        CHECK.says("DUE of one's HOUSE");
        x = borough("sighs 1;moods 0;pays mood;", TENANT, 0, 1, POET, 0, 2);
        CHECK.due("not of another's", x.few(0, 0), 63);
        CHECK.due("of the poet's", x.few(1, 17), 1);
    }

    private static void fewNone() {
        CHECK.says("FEW: NONE");
        RatedBySighs x = borough("sighs 1;moods 0;pays mood;", TENANT, 0, 1, TENANT, 0, 1);
        CHECK.due("the other one's sighs", x.few(0, 5), -1);
        CHECK.due("the other one's sighs", x.few(0, 6), 63);
        x = borough("sighs 0;moods 0;pays 9999;", TENANT, 0, 1);
        CHECK.due("all that there is", x.few(0, 9998), -1);
        CHECK.due("all that there is", x.few(0, 9999), 0);
        CHECK.says("k (0 .. 9999): BAD");
        for (int k : new int[] {-1, 10000, FAR, DEEP}) {
            CHECK.due("k " + k, x.few(0, k), -2);
        }
        for (int one : new int[] {-1, 1, 8, FAR, DEEP}) {
            CHECK.due("one " + one, x.few(one, 9999), -2);
        }
    }

    private static void move() {
        CHECK.says("MOVE: 10 times one, and the HOUSE, such that, did one live there, ALL would be least");
        RatedBySighs x = borough("sighs 9-2*house;moods 0;pays mood;", TENANT, 0, 0);
        best("to the last house", x.move(0), x.move(1), 4, 6);
        x.set(2, 0, 4);
        CHECK.says("MOVE: if less");
        best("there already", x.move(0), x.move(1), -1, 6);
        CHECK.says("MOVE: of like ones the first");
        x = borough("sighs others;moods 0;pays mood;", TENANT, 0, 1, TENANT, 0, 1, TENANT, 0, 0);
        best("the first of two, to the first of three", x.move(0), x.move(1), 2, 0);
        x = borough("sighs others;moods 0;pays mood;", TENANT, 0, 4, FOOL, 0, 3, TENANT, 0, 4);
        best("the first of two", x.move(0), x.move(1), 0, 0);
        CHECK.says("MOVE (what 0; NONE), ALL then (1; as now, if none). BAD.");
        for (int what : NEITHER_0_NOR_1) {
            CHECK.due("what " + what, x.move(what), -2);
        }
    }

    private static void moveNone() {
        CHECK.says("MOVE: NONE");
        RatedBySighs x = Check.ruled("sighs 0;moods 0;pays 2;");
        best("nobody", x.move(0), x.move(1), -1, 10);
        x.tenant(TENANT, 0, 0);
        best("all houses are alike", x.move(0), x.move(1), -1, 10);
        x = borough("sighs 3;moods 0;pays mood;", FOOL, 0, 0, WIDOW, 0, 1);
        best("a fool is a fool", x.move(0), x.move(1), -1, 18);
        x.tenant(AUNT, 0, 4);
        x.set(0, 0, 1);
        best("nothing is paid for an aunt", x.move(0), x.move(1), -1, 18);
    }

    private static void change() {
        CHECK.says("CHANGE: 10 times the one, and the other (the lesser first)");
        String rule = "sighs number*house;moods 0;pays mood;";
        RatedBySighs x = borough(rule, TENANT, 2, 0, TENANT, 1, 1);
        best("already best", x.change(0), x.change(1), -1, 6);
        x = borough(rule, TENANT, 1, 0, TENANT, 2, 1);
        best("two", x.change(0), x.change(1), 1, 6);
        x = borough(rule, FOOL, 9, 0, FOOL, 9, 0, FOOL, 9, 0, FOOL, 9, 0, FOOL, 9, 0, FOOL, 9, 0, TENANT, 0, 0,
            TENANT, 1, 4);
        best("of like ones the first: with a fool", x.change(0), x.change(1), 7, 0);
        for (int i = 0; i < 6; i++) {
            x.set(2, i, 4);
        }
        best("the last two", x.change(0), x.change(1), 67, 0);
        CHECK.says("CHANGE: of like ones the first");
        x = borough(rule, TENANT, 1, 2, TENANT, 1, 2, TENANT, 0, 1, TENANT, 0, 1);
        best("the first one with the first", x.change(0), x.change(1), 2, 18);
        CHECK.says("CHANGE (what 0; NONE), ALL then (1; as now, if none). BAD.");
        for (int what : NEITHER_0_NOR_1) {
            CHECK.due("what " + what, x.change(what), -2);
        }
    }

    private static void changeNone() {
        CHECK.says("CHANGE: NONE");
        RatedBySighs x = Check.ruled("sighs house;moods 0;pays 2+mood;");
        best("nobody", x.change(0), x.change(1), -1, 10);
        x.tenant(TENANT, 0, 4);
        best("one alone", x.change(0), x.change(1), -1, 34);
        x.tenant(TENANT, 0, 1);
        best("two alike", x.change(0), x.change(1), -1, 40);
        x.set(2, 1, 4);
        best("two in one house", x.change(0), x.change(1), -1, 58);
    }

    private static void onlyInThought() {
        CHECK.says("in thought: all stay as they are");
        RatedBySighs x = borough("sighs others+house;moods 0;pays mood;", TENANT, 1, 2, FOOL, 2, 2, POET, 3, 3, LOVER, 4, 3);
        for (int one = 0; one < 4; one++) {
            x.set(3, one, one - 2);
            x.set(4, one, one + 5);
        }
        int all = x.due(-1);
        for (int what = 0; what < 2; what++) {
            x.loudest(what);
            x.cheer(what);
            x.cart(what);
            x.move(what);
            x.change(what);
        }
        for (int one = 0; one < 4; one++) {
            x.cost(one);
            x.few(one, 0);
            int[] parts = {0, one + 1, one < 2 ? 2 : 3, one - 2, one + 5};
            for (int what = 0; what < 5; what++) {
                CHECK.due("one " + one + " part " + what, x.told(one, what), parts[what]);
            }
        }
        CHECK.due("all", x.due(-1), all);
        CHECK.due("paid", x.count(3), 0);
        CHECK.due("the night", x.count(2), 0);
    }
}
