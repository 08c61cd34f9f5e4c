import java.util.ArrayList;
import java.util.List;

/**
 * Terms 1: "Refusals ...; they change nothing", and Terms 2: nights are "in thought". Each such call is made on a
 * new borough, and all that can be asked of it afterwards is held against one to which the call did not come.
 */
public final class NothingChangesTest {
    private static final Check CHECK = new Check("NothingChangesTest");
    private static final int FAR = Integer.MAX_VALUE, DEEP = Integer.MIN_VALUE;

    interface Call {
        long on(RatedBySighs x);
    }

    interface Site {
        RatedBySighs built();
    }

    public static void main(String[] args) {
        refusalsOfPeople();
        refusalsOfNights();
        refusalsOfSheets();
        refusalsOfAFullBorough();
        inThought();
        asked();
        CHECK.end();
    }

    // ---- two boroughs

    /** Three people of whom an image keeps two, two texts, a tape that goes on, rows of each sort. */
    private static RatedBySighs ordinary() {
        RatedBySighs x = Check.ruled("sighs 3-mood;moods 0;pays mood+1;");
        x.set(0, 0, 40);
        x.tenant(4, 3, 2);
        x.tenant(5, 1, 1);
        x.set(3, 0, -4);
        x.set(4, 0, 5);
        x.image();
        x.night();
        x.force(0);
        x.tenant(3, 2, 2);
        x.set(3, 0, 2);
        x.set(3, 2, -3);
        x.set(4, 2, 8);
        Check.row(x, 0, 0, 1, 7, 1);
        Check.row(x, 1, 1, 2, 8, 2);
        Check.row(x, 2, 2, 3, 3, 3, 5, 5, 4);
        return Check.fed(x, "sighs 1;moods 0;pays");
    }

    /** Eight people, six texts, a tape of 160 bytes, the last night; no sheets and no image. */
    private static RatedBySighs full() {
        RatedBySighs x = new RatedBySighs();
        for (int i = 1; i < 6; i++) {
            Check.text(x, "sighs " + i + ";moods 0;pays 8;");
        }
        for (int i = 0; i < 8; i++) {
            x.tenant(i % 6, i, i % 5);
        }
        x.force(4);
        x.set(0, 0, 999);
        return Check.fed(x, " ".repeat(160));
    }

    private static void ask(List<Long> answers, long answer) {
        answers.add(answer);
    }

    private static void askPeople(List<Long> answers, RatedBySighs x, int many) {
        for (int what = 0; what < 7; what++) {
            ask(answers, x.count(what));
        }
        for (int house = -1; house < 5; house++) {
            ask(answers, x.due(house));
        }
        for (int one = 0; one < many; one++) {
            for (int what : new int[] {1, 2, 3, 4, 5, 6, 10, 11, 12, 13, 14, 15, 20, 21, 22, 23, 24, 25}) {
                ask(answers, x.told(one, what));
            }
        }
    }

    private static void askSheets(List<Long> answers, RatedBySighs x) {
        for (int sheet = 0; sheet < 4; sheet++) {
            for (int n = 1; n < 8; n++) {
                ask(answers, x.copy(sheet, 0, sheet, 0, n));
            }
            for (int sort = 0; sort < 3; sort++) {
                ask(answers, x.tenants(sheet, sort, 0, 0));
                int before = x.count(0);
                ask(answers, x.tenants(sheet, sort, 0, 2));
                for (int one = before; one < x.count(0); one++) {
                    ask(answers, x.told(one, 5) * 100 + x.told(one, 1) * 10 + x.told(one, 2));
                }
            }
        }
    }

    private static List<Long> allOf(RatedBySighs x) {
        List<Long> answers = new ArrayList<>();
        boolean isFull = x.count(0) == 8;
        askPeople(answers, x, isFull ? 8 : 4);
        if (isFull) {
            return answers;
        }
        askSheets(answers, x);
        ask(answers, Check.text(x, " 7;"));
        ask(answers, x.force(2));
        ask(answers, x.due(4));
        ask(answers, x.back());
        askPeople(answers, x, 2);
        return answers;
    }

    // ---- what is held against each other

    private static void changesNothing(Site site, String name, Call call) {
        RatedBySighs x = site.built();
        call.on(x);
        CHECK.holds(name + " changes nothing", allOf(x).equals(allOf(site.built())));
    }

    private static void refused(Site site, long due, String name, Call call) {
        CHECK.due(name, call.on(site.built()), due);
        changesNothing(site, name, call);
    }

    private static void refused(long due, String name, Call call) {
        refused(NothingChangesTest::ordinary, due, name, call);
    }

    private static void refusalsOfPeople() {
        CHECK.says("Refusals change nothing");
        int[][] sets = {{-1, 0, 0}, {5, 0, 0}, {0, 0, -1}, {0, 0, 1000}, {1, 0, -1}, {1, 0, 10}, {1, 3, 0}, {1, -1, 0},
            {2, 0, -1}, {2, 0, 5}, {2, 3, 0}, {3, 0, -21}, {3, 0, 21}, {3, 3, 0}, {4, 0, -1}, {4, 0, 64}, {4, 3, 0}};
        for (int[] s : sets) {
            refused(-100, "set(" + s[0] + ", " + s[1] + ", " + s[2] + ")", x -> x.set(s[0], s[1], s[2]));
        }
        int[][] wrong = {{-1, 0, 0}, {6, 0, 0}, {0, -1, 0}, {0, 10, 0}, {0, 0, -1}, {0, 0, 5}};
        for (int[] w : wrong) {
            refused(-2, "tenant " + w[0] + w[1] + w[2], x -> x.tenant(w[0], w[1], w[2]));
        }
        refused(-100, "told of nobody", x -> x.told(3, 1));
        refused(-100, "told no such", x -> x.told(0, 7));
        refused(-2, "feed(-1)", x -> x.feed(-1));
        refused(-2, "feed(256)", x -> x.feed(256));
        refused(-2, "force(2)", x -> x.force(2));
        refused(-2, "force(-1)", x -> x.force(-1));
        refused(-2, "taken for 6", x -> x.taken(0, 6));
        refused(-11, "taken, nobody", x -> x.taken(3, 0));
        refused(-13, "taken for another", x -> x.taken(0, 5));
    }

    private static void refusalsOfNights() {
        refused(-2, "reed of 5", x -> x.reed(5, 0));
        refused(-2, "reed in 6", x -> x.reed(0, 6));
        refused(-2, "due(5)", x -> x.due(5));
        refused(-2, "loudest(2)", x -> x.loudest(2));
        refused(-100000, "cost(3)", x -> x.cost(3));
        refused(-2, "cheer(2)", x -> x.cheer(2));
        refused(-2, "cart(2)", x -> x.cart(2));
        refused(-2, "few of nobody", x -> x.few(3, 0));
        refused(-2, "few, k -1", x -> x.few(0, -1));
        refused(-2, "few, k 10000", x -> x.few(0, 10000));
        refused(-2, "move(2)", x -> x.move(2));
        refused(-2, "change(2)", x -> x.change(2));
        refused(RatedBySighs.NO, "chance of 0", x -> x.chance(0, 0, 0));
        refused(RatedBySighs.NO, "chance of 21", x -> x.chance(0, 21, 0));
        refused(RatedBySighs.NO, "chance, part 2", x -> x.chance(0, 1, 2));
        refused(-2, "count(7)", x -> x.count(7));
        refused(-2, "tells by sheet 4", x -> x.tells(4, 0, 0, 0));
        refused(-2, "tells of house 5", x -> x.tells(2, 5, 0, 0));
        refused(-2, "tells what 9", x -> x.tells(2, 0, 0, 9));
        refused(-2, "tells of nobody", x -> x.tells(2, 0, 3, 2));
        refused(-11, "tells by a missing sheet", x -> x.tells(3, 0, 0, 2));
        refused(-2, "tells by a row of three", x -> x.tells(1, 0, 0, 2));
    }

    private static void refusalsOfSheets() {
        refused(-2, "film on 4", x -> x.film(4, 0));
        refused(-2, "film of 5", x -> x.film(0, 5));
        refused(-2, "film on -1", x -> x.film(-1, 0));
        refused(-2, "film of -1", x -> x.film(0, -1));
        int[][] rows = {{4, 0, 1}, {0, 3, 1}, {0, -2, 1}, {0, 0, 41}, {-1, 0, 1}, {0, 1, FAR}};
        for (int[] r : rows) {
            refused(-2, "sheet " + r[0] + " " + r[1] + " " + r[2], x -> x.sheet(r[0], r[1], r[2]));
        }
        refused(-14, "sheet of -1", x -> x.sheet(0, 0, -1));
        refused(-14, "sheet of " + DEEP, x -> x.sheet(0, 2, DEEP));
        refused(-2, "cell of 4", x -> x.cell(4, 0, 9));
        refused(-11, "cell of a missing one", x -> x.cell(3, 0, 9));
        refused(-12, "cell -1", x -> x.cell(0, -1, 9));
        refused(-12, "cell 3", x -> x.cell(0, 3, 9));
        refused(-2, "copy to 4", x -> x.copy(0, 0, 4, 0, 1));
        refused(-11, "copy to a missing one", x -> x.copy(0, 0, 3, 0, 1));
        refused(-13, "copy to another sort", x -> x.copy(0, 0, 1, 0, 3));
        refused(-12, "copy of four", x -> x.copy(2, 0, 2, 3, 4));
        refused(-12, "copy from 6", x -> x.copy(2, 6, 2, 0, 1));
        refused(-12, "copy of -1", x -> x.copy(2, 3, 2, 0, -1));
        refused(-2, "tenants by 4", x -> x.tenants(4, 0, 0, 1));
        refused(-2, "tenants of sort 3", x -> x.tenants(0, 3, 0, 1));
        refused(-2, "nine tenants", x -> x.tenants(0, 0, 0, 9));
        refused(-13, "tenants of another sort", x -> x.tenants(0, 1, 0, 1));
        refused(-11, "tenants by a missing one", x -> x.tenants(3, 1, 0, 1));
        refused(-12, "tenants from 1, where none stood ahead", x -> x.tenants(0, 0, 1, 1));
    }

    private static void refusalsOfAFullBorough() {
        CHECK.says("FULL, STATE change nothing");
        Site full = NothingChangesTest::full;
        refused(full, -4, "a ninth", x -> x.tenant(0, 0, 0));
        refused(full, -4, "a 161st byte", x -> x.feed(65));
        refused(full, -4, "a seventh text", RatedBySighs::text);
        refused(full, -3, "a thousandth night", RatedBySighs::night);
        refused(full, -3, "no image", RatedBySighs::back);
        refused(full, -2, "force(6)", x -> x.force(6));
        refused(full, -100, "set of a ninth", x -> x.set(3, 8, 1));
        refused(NothingChangesTest::ordinary, -3, "the night is 999", x -> lastNight(x));
    }

    /** The call is refused when the night is 999: the night itself is set back, so that the rest can be compared. */
    private static long lastNight(RatedBySighs x) {
        int was = x.set(0, 0, 999);
        int answer = x.night();
        x.set(0, 0, was);
        return answer;
    }

    private static void inThought() {
        CHECK.says("A NIGHT, in thought");
        for (Site site : new Site[] {NothingChangesTest::ordinary, NothingChangesTest::full}) {
            for (int what = 0; what < 2; what++) {
                int asked = what;
                changesNothing(site, "loudest", x -> x.loudest(asked));
                changesNothing(site, "cheer", x -> x.cheer(asked));
                changesNothing(site, "cart", x -> x.cart(asked));
                changesNothing(site, "move", x -> x.move(asked));
                changesNothing(site, "change", x -> x.change(asked));
                changesNothing(site, "chance", x -> x.chance(FAR, 20, asked));
            }
            for (int one = 0; one < site.built().count(0); one++) {
                int asked = one;
                changesNothing(site, "cost", x -> x.cost(asked));
                changesNothing(site, "few", x -> x.few(asked, 0));
                changesNothing(site, "few", x -> x.few(asked, 30));
            }
            changesNothing(site, "drawn", x -> x.drawn(DEEP));
            changesNothing(site, "due", x -> x.due(-1));
            changesNothing(site, "reed", x -> x.reed(2, 3));
        }
    }

    private static void asked() {
        CHECK.says("TOLD: were it so");
        Site site = NothingChangesTest::ordinary;
        for (int what = 0; what <= 8; what++) {
            for (int one = 0; one < 3; one++) {
                int w = what;
                int o = one;
                changesNothing(site, "tells " + w + " of " + o, x -> x.tells(2, 2, o, w));
                changesNothing(site, "tells " + w + " of " + o, x -> x.tells(2, 1, o, w));
            }
        }
        changesNothing(site, "told", x -> x.told(0, 13));
        changesNothing(site, "count", x -> x.count(0));
        changesNothing(site, "taken", x -> x.taken(0, 2));
    }
}
