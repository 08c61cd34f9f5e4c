/** Promises 18 to 24. */
public final class ReedsTest {
    private static final Check CHECK = new Check("ReedsTest");
    private static final int FAR = Integer.MAX_VALUE, DEEP = Integer.MIN_VALUE;

    public static void main(String[] args) {
        firstOther();
        texts();
        kinds();
        numbers();
        houses();
        moods();
        outs();
        sortsOfSheets();
        tellsRefuses();
        film();
        drawn();
        chance();
        imageAndBack();
        imageLeavesTheRest();
        count();
        CHECK.end();
    }

    private static RatedBySighs oneTenant(int... reeds) {
        RatedBySighs x = new RatedBySighs();
        x.tenant(0, 0, 0);
        Check.row(x, 0, 2, reeds);
        return x;
    }

    private static void firstOther() {
        RatedBySighs x = oneTenant(5, 5, 5, 5, 5, 5);
        CHECK.due("as told", x.tells(0, 0, 0, 0), -1);
        CHECK.due("one doesn't matter", x.tells(0, 0, 99, 0), -1);
        for (int hour = 5; hour >= 0; hour--) {
            x.cell(0, hour, 4);
            CHECK.due("otherwise from " + hour, x.tells(0, 0, -7, 0), hour);
        }
        CHECK.due("of another house", x.tells(0, 1, 0, 0), 0);
    }

    private static void texts() {
        RatedBySighs x = oneTenant(5, 5, 5, 5, 5, 5);
        CHECK.due("text 0", x.tells(0, 0, 0, 1), 1);
        Check.text(x, "sighs 5;moods 0;pays 0;");
        Check.text(x, "sighs 6;moods 0;pays 0;");
        Check.text(x, "sighs 5;moods 9;pays 0;");
        Check.text(x, "sighs 5-mood;moods 1;pays 0;");
        Check.text(x, "sighs 5+hour-hour;moods 9;pays 0;");
        CHECK.due("texts 0, 1, 3, 5", x.tells(0, 0, 99, 1), 0b101011);
        x.force(2);
        CHECK.due("whatever the rule", x.tells(0, 0, -1, 1), 0b101011);
        CHECK.due("the rule stays", x.count(6), 2);
        Check.row(x, 0, 2, 7, 7, 7, 7, 7, 7);
        CHECK.due("no text", x.tells(0, 0, 0, 1), 0);
    }

    private static void kinds() {
        RatedBySighs x = oneTenant(5, 5, 5, 5, 5, 5);
        CHECK.due("a tenant or a widow", x.tells(0, 0, 0, 2), 0b000011);
        x.set(1, 0, 3);
        CHECK.due("a tenant", x.tells(0, 0, 0, 2), 0b000001);
        x.set(0, 0, 30);
        CHECK.due("a tenant or a widow", x.tells(0, 0, 0, 2), 0b000011);
        Check.row(x, 0, 2, 15, 15, 15, 15, 15, 15);
        CHECK.due("a poet", x.tells(0, 0, 0, 2), 0b000100);
        x.set(1, 0, 0);
        CHECK.due("a poet or a lover", x.tells(0, 0, 0, 2), 0b010100);
        Check.row(x, 0, 2, 2, 3, 3, 4, 4, 5);
        CHECK.due("an aunt", x.tells(0, 0, 0, 2), 0b001000);
        Check.row(x, 0, 2, 0, 0, 0, 0, 0, 0);
        CHECK.due("a fool", x.tells(0, 0, 0, 2), 0b100000);
        CHECK.due("the kind stays", x.told(0, 5), 0);
        x.tenant(0, 0, 0);
        x.set(3, 0, 20);
        Check.row(x, 0, 2, 5, 4, 3, 2, 1, 0);
        CHECK.due("a fool is known by others", x.tells(0, 0, 0, 2), 0b100000);
        Check.row(x, 0, 2, 9, 9, 9, 9, 9, 9);
        CHECK.due("none", x.tells(0, 0, 0, 2), 0);
    }

    private static void numbers() {
        RatedBySighs x = oneTenant(5, 5, 5, 5, 5, 5);
        CHECK.due("all of a tenant", x.tells(0, 0, 0, 3), 1023);
        x.tenant(1, 9, 2);
        x.set(0, 0, 45);
        CHECK.due("of a widow", x.tells(0, 2, 1, 3), 31);
        CHECK.due("the number stays", x.told(1, 1), 9);
        CHECK.due("another one's", x.tells(0, 2, 0, 3), 0);
    }

    private static void houses() {
        RatedBySighs x = oneTenant(5, 5, 5, 5, 5, 5);
        CHECK.due("here", x.tells(0, 0, 0, 4), 1);
        CHECK.due("there", x.tells(0, 3, 0, 4), 8);
        CHECK.due("the house stays", x.told(0, 2), 0);
        Check.row(x, 0, 2, 0, 0, 0, 0, 0, 0);
        CHECK.due("elsewhere", x.tells(0, 3, 0, 4), 0b10111);
    }

    private static void moods() {
        RatedBySighs x = oneTenant(5, 5, 5, 5, 5, 5);
        x.set(3, 0, 7);
        CHECK.due("one mood", x.tells(0, 0, 0, 5), 1);
        CHECK.due("it is 0", x.tells(0, 0, 0, 6), 0);
        Check.row(x, 0, 2, 0, 0, 0, 0, 0, 0);
        CHECK.due("5 to 20", x.tells(0, 0, 0, 5), 16);
        CHECK.due("the least", x.tells(0, 0, 0, 6), 5);
        Check.row(x, 0, 2, 25, 25, 25, 25, 25, 25);
        CHECK.due("the lowest", x.tells(0, 0, 0, 6), -20);
        Check.row(x, 0, 2, 26, 26, 26, 26, 26, 26);
        CHECK.due("none", x.tells(0, 0, 0, 5), 0);
        CHECK.due("none at all", x.tells(0, 0, 0, 6), -100);
        CHECK.due("the mood stays", x.told(0, 3), 7);
        CHECK.due("in an empty house any", x.tells(0, 1, 0, 5), 0);
        Check.row(x, 0, 2, 0, 0, 0, 0, 0, 0);
        CHECK.due("in an empty house any", x.tells(0, 1, 0, 5), 41);
        x.force(Check.text(x, "sighs mood=20;moods 0;pays 0;"));
        Check.row(x, 0, 2, 1, 1, 1, 1, 1, 1);
        CHECK.due("the highest", x.tells(0, 0, 0, 6), 20);
        CHECK.due("the highest alone", x.tells(0, 0, 0, 5), 1);
    }

    private static void outs() {
        RatedBySighs x = oneTenant(5, 5, 0, 4, 4, 0);
        x.set(4, 0, 7);
        CHECK.due("one way", x.tells(0, 0, 0, 7), 1);
        CHECK.due("hours 2 and 5", x.tells(0, 0, 0, 8), 36);
        x.set(3, 0, 0);
        Check.row(x, 0, 2, 0, 0, 0, 0, 0, 0);
        CHECK.due("out for five hours, or for six", x.tells(0, 0, 0, 7), 2);
        CHECK.due("the least", x.tells(0, 0, 0, 8), 31);
        Check.row(x, 0, 2, 9, 0, 0, 0, 0, 0);
        CHECK.due("no way", x.tells(0, 0, 0, 7), 0);
        CHECK.due("none", x.tells(0, 0, 0, 8), -1);
        CHECK.due("out as before", x.told(0, 4), 7);
        x.force(Check.text(x, "sighs 1;moods 0;pays 0;"));
        Check.row(x, 0, 2, 0, 0, 0, 0, 0, 0);
        CHECK.due("out in all hours", x.tells(0, 0, 0, 8), 63);
        CHECK.due("out in all hours alone", x.tells(0, 0, 0, 7), 1);
    }

    private static void sortsOfSheets() {
        RatedBySighs x = Check.ruled("sighs 50;moods 0;pays 0;");
        x.tenant(2, 0, 0);
        for (int sort = 0; sort < 3; sort++) {
            Check.row(x, sort, sort, 150, 150, 150, 150, 150, 150);
            CHECK.due("150 in sort " + sort, x.tells(sort, 0, 0, 0), sort == 0 ? 0 : -1);
        }
        Check.row(x, 0, 0, 150 + 256, 150, 150, 150, 150, 150);
        Check.row(x, 1, 1, 150 + 65536, 150, 150, 150, 150, 150);
        CHECK.due("bytes are cut", x.tells(0, 0, 0, 0), 0);
        CHECK.due("shorts are cut", x.tells(1, 0, 0, 0), -1);
    }

    private static void tellsRefuses() {
        RatedBySighs x = oneTenant(5, 5, 5, 5, 5, 5);
        int[][] bad = {{-1, 0, 0, 0}, {4, 0, 0, 0}, {0, -1, 0, 0}, {0, 5, 0, 0}, {0, 0, 0, -1}, {0, 0, 0, 9},
            {FAR, 0, 0, 0}, {0, DEEP, 0, 0}, {0, 0, 0, FAR}};
        for (int[] b : bad) {
            CHECK.due("bad tells", x.tells(b[0], b[1], b[2], b[3]), -2);
        }
        for (int what = 2; what <= 8; what++) {
            CHECK.due("of nobody " + what, x.tells(0, 0, 1, what), -2);
            CHECK.due("of nobody " + what, x.tells(0, 0, -1, what), -2);
            CHECK.due("of nobody, ahead of a missing sheet " + what, x.tells(1, 0, 1, what), -2);
        }
        for (int what = 0; what <= 8; what++) {
            CHECK.due("a missing sheet " + what, x.tells(1, 0, 0, what), -11);
            CHECK.due("a bad house ahead of it", x.tells(1, 5, 0, what), -2);
        }
        for (int n : new int[] {0, 5, 7, 40}) {
            x.sheet(0, 2, n);
            CHECK.due("a sheet of " + n, x.tells(0, 0, 0, 0), -2);
        }
    }

    private static void film() {
        RatedBySighs x = Check.ruled("sighs hour*90;moods 0;pays 0;");
        x.tenant(2, 0, 3);
        x.sheet(2, 0, 9);
        CHECK.due("film", x.film(2, 3), 6);
        CHECK.due("it tells", x.tells(2, 3, 0, 0), -1);
        CHECK.due("six items", x.cell(2, 6, 1), -12);
        x.sheet(1, 2, 6);
        CHECK.due("ints", x.copy(2, 0, 1, 0, 6), 6);
        CHECK.due("270 and 297 stand there", x.tells(1, 3, 0, 0), -1);
        x.set(3, 0, 20);
        x.force(0);
        CHECK.due("kept as it was", x.tells(1, 3, 0, 0), 1);
        CHECK.due("of a missing sheet", x.film(3, 0), 6);
        CHECK.due("an empty house", x.tells(3, 0, 0, 0), -1);
        x.film(3, 3);
        CHECK.due("in mood 20", x.tells(3, 3, 0, 0), -1);
        x.set(3, 0, 2);
        CHECK.due("9 in each hour", x.film(3, 3), 6);
        CHECK.due("9 in each hour", x.tells(3, 3, 0, 0), -1);
        int[][] bad = {{-1, 0}, {4, 0}, {0, -1}, {0, 5}, {FAR, 0}, {0, DEEP}};
        for (int[] b : bad) {
            CHECK.due("bad film", x.film(b[0], b[1]), -2);
        }
        CHECK.due("no sheet by that", x.cell(0, 0, 0), -11);
    }

    private static void drawn() {
        RatedBySighs x = new RatedBySighs();
        CHECK.due("of nobody", x.drawn(5), 0);
        x.tenant(0, 0, 0);
        // By these seeds the first two moods are 4 -3, 19 -2, -4 -12, -8 -8, 8 -7.
        int[] seeds = {0, 1, -1, FAR, DEEP};
        int[] one = {6, 0, 54, 78, 0};
        int[] two = {6 + 48, 42, 54 + 102, 78 + 78, 72};
        for (int i = 0; i < seeds.length; i++) {
            CHECK.due("drawn by " + seeds[i], x.drawn(seeds[i]), one[i]);
        }
        x.tenant(0, 0, 4);
        x.set(3, 0, 3);
        x.set(3, 1, -3);
        for (int i = 0; i < seeds.length; i++) {
            CHECK.due("two drawn by " + seeds[i], x.drawn(seeds[i]), two[i]);
        }
        CHECK.due("the mood stays", x.told(0, 3), 3);
        CHECK.due("the mood stays", x.told(1, 3), -3);
        x = new RatedBySighs();
        for (int i = 0; i < 8; i++) {
            x.tenant(5, 0, 0);
            x.set(3, i, i);
        }
        CHECK.due("eight drawn", x.drawn(1), 0);
        for (int i = 0; i < 8; i++) {
            CHECK.due("each mood stays", x.told(i, 3), i);
        }
    }

    private static void chance() {
        RatedBySighs x = new RatedBySighs();
        x.tenant(0, 0, 0);
        // Of the seeds 0 .. 19, 8 draw a mood below 0, the 3rd and the 6th of them first; 10 one below 4.
        long[][] rows = {{0, 20, 2, 5}, {0, 6, 1, 3}, {0, 12, 1, 3}, {0, 2, 0, 1}, {0, 1, 0, 1}, {2, 1, 1, 1},
            {FAR - 1, 4, 3, 4}};
        for (long[] row : rows) {
            CHECK.due("above, of " + row[1], x.chance((int) row[0], (int) row[1], 0), row[2]);
            CHECK.due("below, of " + row[1], x.chance((int) row[0], (int) row[1], 1), row[3]);
        }
        x.set(3, 0, 4);
        CHECK.due("more than now, not as now", x.chance(0, 20, 0), 1);
        CHECK.due("more than now, not as now", x.chance(0, 20, 1), 2);
        CHECK.due("the mood stays", x.told(0, 3), 4);
        int[][] bad = {{0, 0}, {21, 0}, {-1, 0}, {FAR, 0}, {DEEP, 0}, {1, -1}, {1, 2}, {1, DEEP}};
        for (int[] b : bad) {
            CHECK.due("no chance", x.chance(0, b[0], b[1]), RatedBySighs.NO);
        }
    }

    private static void imageAndBack() {
        RatedBySighs x = new RatedBySighs();
        CHECK.due("no image", x.back(), -3);
        Check.text(x, "sighs 1;moods 0;pays mood;");
        x.tenant(4, 3, 2);
        x.tenant(5, 1, 1);
        x.set(0, 0, 7);
        x.set(3, 0, -4);
        x.set(4, 0, 5);
        x.night();
        int paid = x.count(3);
        CHECK.due("image", x.image(), 2);
        x.night();
        x.force(1);
        x.set(1, 0, 9);
        x.set(2, 0, 0);
        x.set(3, 0, 9);
        x.set(4, 0, 9);
        x.set(2, 1, 4);
        x.tenant(0, 0, 0);
        for (int times = 0; times < 2; times++) {
            CHECK.due("back", x.back(), 2);
            int[] counts = {2, 1, 8, paid, 2, 0, 0};
            for (int i = 0; i < counts.length; i++) {
                CHECK.due("count " + i, x.count(i), counts[i]);
            }
            int[] first = {8, 3, 2, -4, 5, 4};
            for (int what = 0; what < first.length; what++) {
                CHECK.due("as in the image " + what, x.told(0, what), first[what]);
            }
            CHECK.due("the fool is home", x.told(1, 2), 1);
            CHECK.due("who came since is gone", x.told(2, 1), -100);
            x.set(3, 0, 11);
            x.set(0, 0, 500);
            x.tenant(1, 1, 1);
        }
        CHECK.due("a new image", x.image(), 3);
        x.set(3, 0, 0);
        CHECK.due("back to the new one", x.back(), 3);
        CHECK.due("its mood", x.told(0, 3), 11);
        CHECK.due("its night", x.count(2), 500);
        for (int i = 3; i < 8; i++) {
            x.tenant(5, i, 0);
        }
        CHECK.due("eight, six of them fools", x.count(1), 6);
        CHECK.due("an image of eight", x.image(), 8);
        x.set(1, 7, 1);
        CHECK.due("back to eight", x.back(), 8);
        CHECK.due("the last one's number", x.told(7, 1), 7);
    }

    private static void imageLeavesTheRest() {
        RatedBySighs x = new RatedBySighs();
        x.image();
        x.feed('a');
        Check.row(x, 0, 2, 1, 2, 3);
        RatedBySighs y = new RatedBySighs();
        y.image();
        CHECK.due("a text", Check.text(y, "sighs 1;moods 0;pays mood;"), 1);
        y.force(1);
        CHECK.due("back", y.back(), 0);
        CHECK.due("the text stays", y.count(4), 2);
        CHECK.due("the rule is as it was", y.force(1), 0);
        CHECK.due("back", x.back(), 0);
        CHECK.due("the tape stays", x.count(5), 1);
        CHECK.due("the sheet stays", x.cell(0, 2, 1), 1);
    }

    private static void count() {
        RatedBySighs x = new RatedBySighs();
        x.tenant(5, 0, 0);
        x.tenant(0, 0, 0);
        x.tenant(5, 0, 0);
        x.set(0, 0, 40);
        x.night();
        Check.text(x, "sighs 1;moods 0;pays mood;");
        Check.text(x, "sighs 1;moods 0;pays mood;");
        x.force(2);
        x.feed('a');
        // With two fools the moods are 0 2 4 6 ..
        int[] counts = {3, 2, 41, 5 + 3 + 1, 3, 1, 2};
        for (int i = 0; i < counts.length; i++) {
            CHECK.due("count " + i, x.count(i), counts[i]);
        }
        for (int what : new int[] {-1, 7, FAR, DEEP}) {
            CHECK.due("bad count", x.count(what), -2);
        }
    }
}
