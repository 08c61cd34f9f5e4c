import java.util.Random;

/** All promises: long runs of drawn calls, held against the plain borough. */
public final class LikeThePlainBoroughTest {
    private static final Check CHECK = new Check("LikeThePlainBoroughTest");
    /** What an object answers behind its 512th call is free; a step may make some 170. */
    private static final int MOST_MADE = 512 - 170;
    private final Random random;
    private final RatedBySighs x = new RatedBySighs();
    private final PlainBorough y = new PlainBorough();

    private LikeThePlainBoroughTest(long seed) {
        random = new Random(seed);
    }

    public static void main(String[] args) {
        int runs = args.length > 0 ? Integer.parseInt(args[0]) : 1500;
        boolean failed = false;
        // Behind a wrong answer the two go apart: the first run that has one is the last.
        for (int run = 0; run < runs && !failed; run++) {
            LikeThePlainBoroughTest test = new LikeThePlainBoroughTest(run);
            for (int i = 0; i < 150 && test.made < MOST_MADE; i++) {
                test.step("run " + run + " step " + i + ": ");
            }
            failed = test.failed;
        }
        CHECK.end();
    }

    private boolean failed = false;
    private int made = 0;

    private void same(String call, long got, long want) {
        made++;
        failed |= got != want;
        CHECK.due(call, got, want);
    }

    /** Mostly within, at times just outside, seldom far away. */
    private int near(int least, int most) {
        int luck = random.nextInt(40);
        if (luck == 0) return least - 1;
        if (luck == 1) return most + 1;
        if (luck == 2) return random.nextBoolean() ? Integer.MAX_VALUE - random.nextInt(3)
            : Integer.MIN_VALUE + random.nextInt(3);
        return least + random.nextInt(most - least + 1);
    }

    private String e(int deep) {
        StringBuilder s = new StringBuilder();
        String[] joins = {" + ", " - ", "*", "+", "<", " = ", " and ", " or "};
        int many = 1 + random.nextInt(3);
        for (int i = 0; i < many; i++) {
            if (i > 0) s.append(joins[random.nextInt(random.nextInt(3) == 0 ? 8 : 4)]);
            int sort = random.nextInt(12);
            if (sort == 0 && deep > 0) s.append("-").append(e(0));
            else if (sort == 1 && deep > 0) s.append("(").append(e(deep - 1)).append(")");
            else if (sort == 2 && deep > 0) s.append("(not ").append(e(deep - 1)).append(" )");
            else if (sort < 7) s.append(random.nextInt(random.nextInt(20) == 0 ? 12000 : 12));
            else s.append(new String[] {"mood", "hour", "number", "others", "house", "fools"}[random.nextInt(6)]);
        }
        return s.toString();
    }

    private String tape() {
        String s = "sighs " + e(3) + ";moods " + e(2) + (random.nextBoolean() ? " ;\npays " : ";pays ");
        s += random.nextInt(3) == 0 ? e(2) + ";" : "mood " + "+-*".charAt(random.nextInt(3)) + e(1) + " ;";
        int spoil = random.nextInt(8);
        int at = random.nextInt(s.length());
        String signs = "();+-*<= \nazAZ059$?";
        char sign = signs.charAt(random.nextInt(signs.length()));
        if (spoil == 0) return s.substring(0, at);
        if (spoil == 1) return s.substring(0, at) + sign + s.substring(at);
        if (spoil == 2) return s.substring(0, at) + s.substring(at + 1);
        if (spoil == 3) return s.substring(0, at) + (random.nextBoolean() ? "((((((" : "not not -- - -- -") + s.substring(at);
        return s;
    }

    private void write(String at) {
        String tape = tape();
        for (int i = 0; i < tape.length(); i++) {
            same(at + "feed", x.feed(tape.charAt(i)), y.feed(tape.charAt(i)));
        }
        same(at + "text of [" + tape + "]", x.text(), y.text());
    }

    private void step(String at) {
        int a = near(0, 4);
        int one = near(0, 7);
        int what = near(0, 1);
        int n, sort, v;
        switch (random.nextInt(34)) {
            case 0: case 1:
                v = random.nextInt(5);
                n = near(v == 3 ? -20 : 0, new int[] {999, 9, 4, 20, 63}[v]);
                sort = random.nextInt(30) == 0 ? near(0, 4) : v;
                same(at + "set " + sort + " " + one + " " + n, x.set(sort, one, n), y.set(sort, one, n));
                break;
            case 2: case 3:
                v = near(0, 5);
                n = near(0, 9);
                same(at + "tenant " + v + " " + n + " " + a, x.tenant(v, n, a), y.tenant(v, n, a));
                break;
            case 4: case 5: case 6:
                v = random.nextInt(3) == 0 ? near(0, 26) : 10 * (1 + random.nextInt(2)) + random.nextInt(6);
                same(at + "told " + one + " " + v, x.told(one, v), y.told(one, v));
                break;
            case 7: v = near(0, 255); if (random.nextInt(9) == 0) same(at + "feed " + v, x.feed(v), y.feed(v)); break;
            case 8: if (random.nextInt(3) == 0) write(at); break;
            case 9: made++; v = near(0, Math.max(0, x.count(4) - 1)); same(at + "force " + v, x.force(v), y.force(v)); break;
            case 10: v = near(0, 5); same(at + "reed " + a + " " + v, x.reed(a, v), y.reed(a, v)); break;
            case 11: v = near(-1, 4); same(at + "due " + v, x.due(v), y.due(v)); break;
            case 12: same(at + "night", x.night(), y.night()); break;
            case 13: same(at + "loudest " + what, x.loudest(what), y.loudest(what)); break;
            case 14: same(at + "cost " + one, x.cost(one), y.cost(one)); break;
            case 15: same(at + "cheer " + what, x.cheer(what), y.cheer(what)); break;
            case 16: same(at + "cart " + what, x.cart(what), y.cart(what)); break;
            case 17:
                made += 2;
                v = random.nextInt(2) == 0 ? near(0, 9999) : Math.min(9999, Math.max(0, x.due(x.told(one, 2))) * random.nextInt(12) / 10);
                same(at + "few " + one + " " + v, x.few(one, v), y.few(one, v));
                break;
            case 18: same(at + "move " + what, x.move(what), y.move(what)); break;
            case 19: same(at + "change " + what, x.change(what), y.change(what)); break;
            case 20: case 21: case 22:
                v = near(0, 8);
                n = near(0, 3);
                same(at + "tells " + n + " " + a + " " + one + " " + v, x.tells(n, a, one, v), y.tells(n, a, one, v));
                break;
            case 23: n = near(0, 3); same(at + "film " + n + " " + a, x.film(n, a), y.film(n, a)); break;
            case 24: v = random.nextInt(); same(at + "drawn " + v, x.drawn(v), y.drawn(v)); break;
            case 25:
                v = random.nextInt(4) == 0 ? Integer.MAX_VALUE - 5 : random.nextInt();
                n = near(1, 20);
                same(at + "chance " + v + " " + n, x.chance(v, n, what), y.chance(v, n, what));
                break;
            case 26: if (random.nextInt(3) == 0) same(at + "image", x.image(), y.image()); break;
            case 27: if (random.nextInt(3) == 0) same(at + "back", x.back(), y.back()); break;
            case 28: v = near(0, 6); same(at + "count " + v, x.count(v), y.count(v)); break;
            case 29:
                n = near(0, 3);
                sort = near(-1, 2);
                v = random.nextInt(3) == 0 ? near(0, 40) : 6;
                same(at + "sheet " + n + " " + sort + " " + v, x.sheet(n, sort, v), y.sheet(n, sort, v));
                break;
            case 30:
                n = near(0, 3);
                v = random.nextInt(2) == 0 ? random.nextInt() : random.nextInt(6);
                sort = near(0, 12);
                same(at + "cell " + n + " " + sort + " " + v, x.cell(n, sort, v), y.cell(n, sort, v));
                break;
            case 31:
                n = near(0, 3);
                v = near(0, 3);
                int i = near(0, 6), j = near(0, 6), many = near(0, 6);
                same(at + "copy " + n + " " + i + " " + v + " " + j + " " + many,
                    x.copy(n, i, v, j, many), y.copy(n, i, v, j, many));
                break;
            case 32:
                n = near(0, 3);
                sort = near(0, 2);
                v = near(0, 4);
                many = near(0, 8);
                same(at + "tenants " + n + " " + sort + " " + v + " " + many,
                    x.tenants(n, sort, v, many), y.tenants(n, sort, v, many));
                break;
            default: v = near(0, 5); same(at + "taken " + one + " " + v, x.taken(one, v), y.taken(one, v)); break;
        }
    }
}
