/** Terms 2 (TOLD, DRAWN, AN IMAGE) and promises 18 to 24: each sentence that names an edge, by itself. */
public final class EdgesOfReedsTest {
    private static final Check CHECK = new Check("EdgesOfReedsTest");
    private static final int FAR = Integer.MAX_VALUE, DEEP = Integer.MIN_VALUE;
    private static final int TENANT = 0, WIDOW = 1, POET = 2, FOOL = 5;
    private static final int[] ALL_BUT_FIRST_TWO = {2, 3, 4, 5, 6, 7, 8};

    public static void main(String[] args) {
        tellsRefuses();
        orderOfRefusals();
        sixAreTold();
        firstOther();
        itemsOfSorts();
        texts();
        kinds();
        numbers();
        houses();
        moods();
        outs();
        nobodyThere();
        film();
        drawn();
        drawnSeeds();
        chance();
        chanceSeeds();
        lowestTerms();
        image();
        back();
        whoCameSince();
        count();
        CHECK.end();
    }

    private static RatedBySighs borough(String rule, int... triples) {
        RatedBySighs x = Check.ruled(rule);
        for (int i = 0; i < triples.length; i += 3) {
            x.tenant(triples[i], triples[i + 1], triples[i + 2]);
        }
        return x;
    }

    /** A borough whose sheet 0 tells these reeds. */
    private static RatedBySighs told(RatedBySighs x, int... reeds) {
        Check.row(x, 0, 2, reeds);
        return x;
    }

    private static void same(String what, RatedBySighs x, int house, int one, int kinds, int numbers, int houses) {
        CHECK.due(what + ": kinds", x.tells(0, house, one, 2), kinds);
        CHECK.due(what + ": numbers", x.tells(0, house, one, 3), numbers);
        CHECK.due(what + ": houses", x.tells(0, house, one, 4), houses);
    }

    private static void counts(String what, RatedBySighs x, int one, int moods, int leastMood, int outs, int leastOut) {
        CHECK.due(what + ": moods", x.tells(0, 0, one, 5), moods);
        CHECK.due(what + ": the least mood", x.tells(0, 0, one, 6), leastMood);
        CHECK.due(what + ": outs", x.tells(0, 0, one, 7), outs);
        CHECK.due(what + ": the least out", x.tells(0, 0, one, 8), leastOut);
    }

    // ---- told

    private static void tellsRefuses() {
        CHECK.says("tells: BAD: SHEET, HOUSE, what, none such");
        RatedBySighs x = told(borough("sighs 1;moods 0;pays 0;", TENANT, 0, 0), 1, 1, 1, 1, 1, 1);
        for (int what = 0; what <= 8; what++) {
            for (int wrong : new int[] {-1, FAR, DEEP}) {
                CHECK.due("sheet " + wrong, x.tells(wrong, 0, 0, what), -2);
                CHECK.due("house " + wrong, x.tells(0, wrong, 0, what), -2);
            }
            CHECK.due("sheet 4", x.tells(4, 0, 0, what), -2);
            CHECK.due("house 5", x.tells(0, 5, 0, what), -2);
        }
        for (int what : new int[] {-1, 9, 10, FAR, DEEP}) {
            CHECK.due("what " + what, x.tells(0, 0, 0, what), -2);
        }
        for (int one : new int[] {-1, 1, 7, 8, FAR, DEEP}) {
            for (int what : ALL_BUT_FIRST_TWO) {
                CHECK.due("one " + one + " what " + what, x.tells(0, 0, one, what), -2);
            }
            CHECK.says("the first HOUR that is otherwise (what 0; NONE; one doesn't matter), TEXTS (1; nor)");
            CHECK.due("of " + one, x.tells(0, 0, one, 0), -1);
            CHECK.due("texts, of " + one, x.tells(0, 0, one, 1), 2);
        }
    }

    private static void orderOfRefusals() {
        CHECK.says("tells: BAD; -11; BAD: it doesn't tell 6");
        RatedBySighs x = borough("sighs 1;moods 0;pays 0;", TENANT, 0, 0);
        for (int what = 0; what <= 8; what++) {
            CHECK.due("a missing sheet", x.tells(3, 4, 0, what), -11);
            CHECK.due("a bad house of a missing sheet", x.tells(3, 5, 0, what), -2);
        }
        CHECK.due("a bad what of a missing sheet", x.tells(3, 0, 0, 9), -2);
        CHECK.due("no one's of a missing sheet", x.tells(3, 0, 1, 2), -2);
        CHECK.due("no one's of a missing sheet, where one doesn't matter", x.tells(3, 0, 1, 0), -11);
        CHECK.due("no one's of a missing sheet, where one doesn't matter", x.tells(3, 0, 1, 1), -11);
        x.sheet(3, 0, 6);
        CHECK.due("an empty row", x.sheet(3, 0, 0), 1);
        CHECK.due("is not missing, but doesn't tell 6", x.tells(3, 0, 0, 0), -2);
    }

    private static void sixAreTold() {
        CHECK.says("BAD: it doesn't tell 6");
        RatedBySighs x = new RatedBySighs();
        x.tenant(TENANT, 0, 0);
        for (int sort = 0; sort < 3; sort++) {
            for (int n : new int[] {0, 1, 5, 6, 7, 12, 40}) {
                x.sheet(1, sort, n);
                for (int what = 0; what <= 8; what += 4) {
                    CHECK.due("a row of " + n + " what " + what, x.tells(1, 1, 0, what),
                        n != 6 ? -2 : what == 0 ? -1 : what == 4 ? 0b11101 : 0);
                }
            }
        }
    }

    private static void firstOther() {
        CHECK.says("the first HOUR that is otherwise; NONE");
        RatedBySighs x = told(borough("sighs hour;moods 0;pays 0;", TENANT, 0, 4), 0, 1, 2, 3, 4, 5);
        CHECK.due("none", x.tells(0, 4, 0, 0), -1);
        for (int hour = 5; hour >= 0; hour--) {
            x.cell(0, hour, hour + 1);
            CHECK.due("more in " + hour, x.tells(0, 4, 0, 0), hour);
            x.cell(0, hour, hour - 1);
            CHECK.due("less in " + hour, x.tells(0, 4, 0, 0), hour);
        }
        for (int hour = 0; hour < 6; hour++) {
            x.cell(0, hour, hour);
            CHECK.due("mended till " + hour, x.tells(0, 4, 0, 0), hour == 5 ? -1 : hour + 1);
        }
        for (int far : new int[] {FAR, DEEP, -1, 65536 + 5, 256 + 5}) {
            x.cell(0, 5, far);
            CHECK.due("an int " + far, x.tells(0, 4, 0, 0), 5);
        }
    }

    private static void itemsOfSorts() {
        CHECK.says("of bytes, shorts its lowest 8, 16 bits, which have a sign");
        for (int reed : new int[] {0, 1, 127, 128, 255, 256, 297}) {
            // Three tenants, who sigh 99 at most each.
            int first = Math.min(99, reed);
            int second = Math.min(99, reed - first);
            RatedBySighs x = borough("sighs " + first + "*(number=0)+" + second + "*(number=1)+"
                + (reed - first - second) + "*(number=2);moods 0;pays 0;", TENANT, 0, 0, TENANT, 1, 0, TENANT, 2, 0);
            CHECK.due("the reed", x.reed(0, 0), reed);
            for (int sort = 0; sort < 3; sort++) {
                int ifAs = sort == 0 && reed > 127 ? 0 : -1;
                Check.row(x, sort, sort, reed, reed, reed, reed, reed, reed);
                CHECK.due(reed + " in sort " + sort, x.tells(sort, 0, 0, 0), ifAs);
                x.cell(sort, 4, reed + 65536);
                CHECK.due(reed + " and 65536 in sort " + sort, x.tells(sort, 0, 0, 0), sort == 2 ? 4 : ifAs);
                x.cell(sort, 3, reed - 256);
                CHECK.due(reed + " less 256 in sort " + sort, x.tells(sort, 0, 0, 0), sort == 0 ? ifAs : 3);
            }
        }
    }

    private static void texts() {
        CHECK.says("TEXTS (bits), were they THE RULE, likewise");
        RatedBySighs x = told(new RatedBySighs(), 7, 7, 7, 7, 7, 7);
        x.tenant(TENANT, 0, 0);
        CHECK.due("none of one", x.tells(0, 0, 0, 1), 0);
        for (int i = 1; i < 6; i++) {
            Check.text(x, "sighs " + (i % 2 == 0 ? 6 : 7) + ";moods 0;pays 0;");
        }
        CHECK.due("1, 3 and 5 of six", x.tells(0, 0, 0, 1), 0b101010);
        for (int rule = 0; rule < 6; rule++) {
            x.force(rule);
            CHECK.due("whatever the rule", x.tells(0, 0, 0, 1), 0b101010);
            CHECK.due("which stays", x.count(6), rule);
        }
        x.set(3, 0, -2);
        CHECK.due("0, too", x.tells(0, 0, 0, 1), 0b101011);
        x.set(2, 0, 1);
        CHECK.due("of an empty house none", x.tells(0, 0, 0, 1), 0);
        told(x, 0, 0, 0, 0, 0, 0);
        CHECK.due("of an empty house all", x.tells(0, 0, 0, 1), 63);
    }

    private static void kinds() {
        CHECK.says("KINDS (bits 0 .. 5)");
        RatedBySighs x = told(borough("sighs 8;moods 0;pays 0;", TENANT, 0, 0, TENANT, 0, 0), 8, 8, 8, 8, 8, 8);
        CHECK.due("a fool", x.tells(0, 0, 0, 2), 0b100000);
        told(x, 16, 16, 16, 16, 16, 16);
        CHECK.due("a tenant or a widow", x.tells(0, 0, 0, 2), 0b000011);
        told(x, 32, 32, 32, 32, 32, 32);
        CHECK.due("a poet or a lover", x.tells(0, 0, 1, 2), 0b010100);
        told(x, 12, 12, 12, 12, 12, 12);
        CHECK.due("an aunt", x.tells(0, 0, 1, 2), 0b001000);
        told(x, 9, 9, 9, 9, 9, 9);
        CHECK.due("none", x.tells(0, 0, 1, 2), 0);
        x.set(4, 1, 63);
        told(x, 8, 8, 8, 8, 8, 8);
        CHECK.due("any who is out", x.tells(0, 0, 1, 2), 63);
        CHECK.due("its kind yet", x.told(1, 5), TENANT);
    }

    private static void numbers() {
        CHECK.says("NUMBERS (bits 0 .. 9)");
        RatedBySighs x = told(borough("sighs number;moods 0;pays 0;", TENANT, 3, 0), 0, 0, 0, 0, 0, 0);
        for (int number = 0; number < 10; number++) {
            told(x, number, number, number, number, number, number);
            CHECK.due("number " + number, x.tells(0, 0, 0, 3), 1 << number);
        }
        told(x, 10, 10, 10, 10, 10, 10);
        CHECK.due("none", x.tells(0, 0, 0, 3), 0);
        CHECK.due("its number yet", x.told(0, 1), 3);
        x.set(4, 0, 63);
        told(x, 0, 0, 0, 0, 0, 0);
        CHECK.due("any", x.tells(0, 0, 0, 3), 1023);
    }

    private static void houses() {
        CHECK.says("HOUSES (bits 0 .. 4) where one could live");
        RatedBySighs x = told(borough("sighs 6;moods 0;pays 0;", TENANT, 0, 2), 6, 6, 6, 6, 6, 6);
        for (int house = 0; house < 5; house++) {
            CHECK.due("house " + house, x.tells(0, house, 0, 4), 1 << house);
        }
        told(x, 0, 0, 0, 0, 0, 0);
        for (int house = 0; house < 5; house++) {
            CHECK.due("any but " + house, x.tells(0, house, 0, 4), 31 - (1 << house));
        }
        told(x, 6, 6, 6, 6, 6, 5);
        CHECK.due("none", x.tells(0, 0, 0, 4), 0);
        CHECK.due("its house yet", x.told(0, 2), 2);
        x.set(4, 0, 63);
        told(x, 0, 0, 0, 0, 0, 0);
        CHECK.due("any", x.tells(0, 3, 0, 4), 31);
    }

    private static void moods() {
        CHECK.says("MOODS (of -20 .. 20: how many, the least); the least (6; -100: none)");
        RatedBySighs x = borough("sighs mood+20;moods 0;pays 0;", TENANT, 0, 0);
        x.set(3, 0, 3);
        for (int mood = -20; mood <= 20; mood++) {
            int reed = mood + 20;
            told(x, reed, reed, reed, reed, reed, reed);
            CHECK.due("how many for " + mood, x.tells(0, 0, 0, 5), 1);
            CHECK.due("the least for " + mood, x.tells(0, 0, 0, 6), mood);
        }
        x = told(borough("sighs mood+20;moods 0;pays 0;", TENANT, 0, 0), 41, 41, 41, 41, 41, 41);
        CHECK.due("none", x.tells(0, 0, 0, 5), 0);
        CHECK.due("none", x.tells(0, 0, 0, 6), -100);
        CHECK.due("its mood yet", x.told(0, 3), 0);
        x = told(borough("sighs 1;moods 0;pays 0;", TENANT, 0, 0), 1, 1, 1, 1, 1, 1);
        CHECK.due("any", x.tells(0, 0, 0, 5), 41);
        CHECK.due("the least of any", x.tells(0, 0, 0, 6), -20);
    }

    private static void outs() {
        CHECK.says("OUTS (of 0 .. 63: how many, the least); the least (8; NONE)");
        RatedBySighs x = borough("sighs 1;moods 0;pays 0;", TENANT, 0, 0);
        x.set(4, 0, 21);
        for (int out = 0; out < 64; out += 9) {
            told(x, 1 - (out & 1), 1 - (out >> 1 & 1), 1 - (out >> 2 & 1), 1 - (out >> 3 & 1), 1 - (out >> 4 & 1),
                1 - (out >> 5));
            CHECK.due("how many for " + out, x.tells(0, 0, 0, 7), 1);
            CHECK.due("the least for " + out, x.tells(0, 0, 0, 8), out);
        }
        told(x, 1, 1, 1, 1, 1, 2);
        CHECK.due("none", x.tells(0, 0, 0, 7), 0);
        CHECK.due("none", x.tells(0, 0, 0, 8), -1);
        CHECK.due("out as it was", x.told(0, 4), 21);
        told(x, 0, 0, 0, 0, 0, 0);
        CHECK.due("any hours in another house", x.tells(0, 1, 0, 7), 64);
        CHECK.due("the least of any", x.tells(0, 1, 0, 8), 0);
    }

    private static void nobodyThere() {
        CHECK.says("by which all would be so: though one lives elsewhere");
        RatedBySighs x = told(borough("sighs 4;moods 0;pays 0;", TENANT, 0, 0, TENANT, 0, 1), 4, 4, 4, 4, 4, 4);
        same("another's reeds, whatever one is", x, 0, 1, 63, 1023, 0b11110);
        counts("another's reeds, however one comes", x, 1, 41, -20, 64, 0);
        counts("one's own", x, 0, 41, -20, 1, 0);
        told(x, 4, 4, 4, 4, 4, 8);
        same("none", x, 0, 1, 0, 0, 0);
        counts("none", x, 1, 0, -100, 0, -1);
    }

    private static void film() {
        CHECK.says("A SHEET truly becomes REEDS of a HOUSE in HOURS 0 .. 5 (ints): 6. BAD.");
        RatedBySighs x = borough("sighs hour*20;moods 0;pays 0;", POET, 0, 4);
        for (int sheet = 0; sheet < 4; sheet++) {
            x.sheet(sheet, sheet - 1, 40);
            CHECK.due("sheet " + sheet, x.film(sheet, 4), 6);
            CHECK.due("has six", x.cell(sheet, 6, 0), -12);
            CHECK.due("ints, so 297 stands", x.tells(sheet, 4, 0, 0), -1);
            CHECK.due("ints", x.tenants(sheet, 2, 0, 0), 0);
        }
        for (int wrong : new int[] {-1, FAR, DEEP}) {
            CHECK.due("sheet " + wrong, x.film(wrong, 0), -2);
            CHECK.due("house " + wrong, x.film(0, wrong), -2);
        }
        CHECK.due("sheet 4", x.film(4, 0), -2);
        CHECK.due("house 5", x.film(0, 5), -2);
        CHECK.due("as it was", x.tells(0, 4, 0, 0), -1);
        CHECK.due("of an empty house", x.film(0, 3), 6);
        CHECK.due("of an empty house", x.tells(0, 3, 0, 0), -1);
        CHECK.due("no longer of the poet's", x.tells(0, 4, 0, 0), 1);
        x = borough("sighs 9-hour;moods 0;pays 0;", TENANT, 0, 1);
        x.film(0, 1);
        CHECK.due("all six are told", x.tells(0, 1, 0, 0), -1);
        x.set(4, 0, 63);
        for (int hour = 0; hour < 6; hour++) {
            CHECK.due("something in " + hour, x.tells(0, 1, 0, 0), hour);
            x.cell(0, hour, 0);
        }
    }

    // ---- moods that are drawn

    /** The document's rule, in whole numbers that are cut to 32 bits by hand. */
    private static int[] drawnMoods(int seed, int many) {
        int[] moods = new int[many];
        long z = seed & 0xffffffffL;
        for (int i = 0; i < many; i++) {
            z = (z * 1103515245L + 12345L) % 4294967296L;
            moods[i] = (int) (z / 512 % 41) - 20;
        }
        return moods;
    }

    private static void drawn() {
        CHECK.says("DRAWN by a SEED");
        CHECK.due("nobody", new RatedBySighs().drawn(0), 0);
        CHECK.due("nobody, all houses pay", Check.ruled("sighs 0;moods 0;pays 7;").drawn(DEEP), 35);
        RatedBySighs x = borough("sighs mood+20;moods 0;pays mood;");
        for (int one = 0; one < 8; one++) {
            x.tenant(TENANT, 0, one % 5);
            x.set(3, one, 5 - one);
            for (int seed : new int[] {0, 1, -1, 2026, FAR, DEEP}) {
                int all = 0;
                for (int mood : drawnMoods(seed, one + 1)) {
                    all += 6 * (mood + 20);
                }
                CHECK.due(one + 1 + " drawn by " + seed, x.drawn(seed), all);
            }
        }
        CHECK.says("DRAWN: in thought");
        for (int one = 0; one < 8; one++) {
            CHECK.due("mood of " + one, x.told(one, 3), 5 - one);
        }
    }

    /** One whose reed tells the mood in which it comes home: both bounds are drawn by some seed. */
    private static void drawnSeeds() {
        CHECK.says("(z >>> 9) % 41 less 20");
        boolean least = false;
        boolean most = false;
        RatedBySighs x = borough("sighs mood+20;moods 0;pays mood;", TENANT, 0, 0);
        for (int seed = -150; seed < 150; seed++) {
            int mood = drawnMoods(seed, 1)[0];
            CHECK.due("by " + seed, x.drawn(seed), 6 * (mood + 20));
            least |= mood == -20;
            most |= mood == 20;
        }
        CHECK.holds("-20 was drawn", least);
        CHECK.holds("20 was drawn", most);
    }

    private static void chance() {
        CHECK.says("IN n seeds (1 .. 20); NO: n, part");
        RatedBySighs x = borough("sighs 0;moods 0;pays mood;", TENANT, 0, 0);
        for (int n : new int[] {0, 21, -1, FAR, DEEP}) {
            CHECK.due("n " + n, x.chance(0, n, 0), RatedBySighs.NO);
            CHECK.due("n " + n, x.chance(0, n, 1), RatedBySighs.NO);
        }
        for (int part : new int[] {-1, 2, FAR, DEEP}) {
            CHECK.due("part " + part, x.chance(0, 1, part), RatedBySighs.NO);
            CHECK.due("part " + part, x.chance(0, 20, part), RatedBySighs.NO);
        }
        CHECK.says("those by which it is more than now");
        for (int n = 1; n <= 20; n++) {
            CHECK.due("always as now: above", x.chance(0, n, 0), 0);
            CHECK.due("always as now: below", x.chance(0, n, 1), 1);
        }
        x.force(Check.text(x, "sighs 0-mood;moods 0;pays 1+mood;"));
        x.set(3, 0, -20);
        CHECK.due("never more than the most: above", x.chance(0, 20, 0), 0);
        CHECK.due("never more than the most: below", x.chance(0, 20, 1), 1);
    }

    private static void chanceSeeds() {
        CHECK.says("SEED and each 1 more (an int)");
        RatedBySighs x = borough("sighs 20-mood;moods 0;pays mood;", TENANT, 0, 0);
        x.set(3, 0, 1);
        for (int seed : new int[] {0, -1, -10, 7777, FAR, FAR - 10, DEEP}) {
            for (int n : new int[] {1, 2, 19, 20}) {
                int more = 0;
                for (int i = 0; i < n; i++) {
                    more += drawnMoods(seed + i, 1)[0] < 1 ? 1 : 0;
                }
                long above = x.chance(seed, n, 0);
                long below = x.chance(seed, n, 1);
                CHECK.due("of " + n + " from " + seed, above * n, more * below);
                CHECK.holds("a part of " + n, below >= 1 && n % below == 0);
            }
        }
    }

    private static void lowestTerms() {
        CHECK.says("part 0 above, 1 below the line, in lowest terms");
        RatedBySighs x = borough("sighs 20-mood;moods 0;pays mood;", TENANT, 0, 0);
        boolean none = false;
        boolean all = false;
        boolean cut = false;
        for (int mood = -20; mood <= 20; mood += 4) {
            x.set(3, 0, mood);
            for (int n : new int[] {1, 6, 12, 20}) {
                int more = 0;
                for (int i = 0; i < n; i++) {
                    more += drawnMoods(31 + i, 1)[0] < mood ? 1 : 0;
                }
                int common = n;
                while (more % common != 0 || n % common != 0) {
                    common--;
                }
                none |= more == 0;
                all |= more == n;
                cut |= common > 1 && common < n;
                CHECK.due(more + " of " + n + ": above", x.chance(31, n, 0), more / common);
                CHECK.due(more + " of " + n + ": below", x.chance(31, n, 1), n / common);
            }
        }
        CHECK.holds("none, all, and a part that is cut were with them", none && all && cut);
        CHECK.due("the mood stays", x.told(0, 3), 20);
    }

    // ---- an image

    private static void image() {
        CHECK.says("AN IMAGE is kept: how many of PEOPLE");
        RatedBySighs x = new RatedBySighs();
        for (int i = 0; i < 8; i++) {
            CHECK.due(i + " of them", x.image(), i);
            CHECK.due("back to " + i, x.back(), i);
            x.tenant(i % 6, i, i % 5);
        }
        CHECK.due("eight", x.image(), 8);
        CHECK.due("the image of before is gone", x.back(), 8);
        CHECK.says("keeps NUMBERS, HOUSES, MOODS, OUTS of PEOPLE");
        for (int i = 0; i < 8; i++) {
            for (int what = 1; what < 5; what++) {
                x.set(what, i, 3);
            }
        }
        CHECK.due("back", x.back(), 8);
        for (int i = 0; i < 8; i++) {
            int[] parts = {0, i, i % 5, 0, 0, i % 6};
            for (int what = 1; what < 6; what++) {
                CHECK.due("one " + i + " part " + what, x.told(i, what), parts[what]);
            }
        }
    }

    private static void back() {
        CHECK.says("STATE: there is none");
        RatedBySighs x = new RatedBySighs();
        x.tenant(WIDOW, 1, 1);
        CHECK.due("none", x.back(), -3);
        CHECK.due("none yet", x.back(), -3);
        CHECK.due("who is there stays", x.count(0), 1);
        CHECK.due("image", x.image(), 1);
        CHECK.due("once", x.back(), 1);
        CHECK.due("twice: the image is kept", x.back(), 1);
        CHECK.says("AN IMAGE keeps THE NIGHT, PAID, THE RULE");
        x = Check.ruled("sighs 0;moods 0;pays 2;");
        x.set(0, 0, 998);
        x.image();
        CHECK.due("a night", x.night(), 10);
        x.force(0);
        CHECK.due("the last night", x.night(), -3);
        CHECK.due("back", x.back(), 0);
        CHECK.due("the night", x.count(2), 998);
        CHECK.due("paid", x.count(3), 0);
        CHECK.due("the rule", x.count(6), 1);
        CHECK.due("the night once more", x.night(), 10);
        CHECK.due("paid", x.count(3), 10);
    }

    private static void whoCameSince() {
        CHECK.says("PEOPLE that came since go");
        RatedBySighs x = new RatedBySighs();
        x.tenant(TENANT, 0, 0);
        x.image();
        for (int i = 1; i < 8; i++) {
            x.tenant(FOOL, 0, 0);
        }
        CHECK.due("no room", x.tenant(TENANT, 0, 0), -4);
        CHECK.due("fools", x.count(1), 7);
        CHECK.due("due with seven fools", x.due(0), 5);
        CHECK.due("back", x.back(), 1);
        CHECK.due("no fools", x.count(1), 0);
        CHECK.due("due without", x.due(0), 30);
        CHECK.due("nobody there", x.told(1, 5), -100);
        CHECK.due("nobody there", x.set(3, 1, 0), -100);
        CHECK.due("room again", x.tenant(POET, 2, 3), 1);
        CHECK.due("of the new kind", x.told(1, 5), POET);
        x.set(3, 1, 8);
        x.set(4, 1, 8);
        x.back();
        x.tenant(POET, 2, 3);
        CHECK.due("MOOD 0 as one comes", x.told(1, 3), 0);
        CHECK.due("OUT in none as one comes", x.told(1, 4), 0);
        CHECK.due("due of another house", x.due(0), 30);
        x = new RatedBySighs();
        x.image();
        x.tenant(TENANT, 0, 0);
        CHECK.due("back to nobody", x.back(), 0);
        CHECK.due("nobody", x.due(-1), 0);
    }

    private static void count() {
        CHECK.says("count: 0 PEOPLE .. 6 THE RULE. BAD.");
        RatedBySighs x = borough("sighs 0;moods 0;pays 1;", FOOL, 0, 0, FOOL, 0, 0, TENANT, 0, 0);
        x.set(0, 0, 998);
        x.night();
        x.feed(0);
        int[] counts = {3, 2, 999, 5, 2, 1, 1};
        for (int what = 0; what < counts.length; what++) {
            CHECK.due("count " + what, x.count(what), counts[what]);
        }
        for (int what : new int[] {-1, 7, 8, FAR, DEEP}) {
            CHECK.due("count " + what, x.count(what), -2);
        }
    }
}
