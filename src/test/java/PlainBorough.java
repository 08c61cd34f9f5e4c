import java.util.ArrayList;
import java.util.List;

/**
 * The document once more, written as unlike the class as can be (people as a tree of classes, texts as trees,
 * the whole borough at once, copies for all that is only thought), so that the two can be held against each other.
 */
final class PlainBorough {
    static final int BAD = -2, STATE = -3, FULL = -4, NONE = -1;

    // ---- people, as kinds under kinds

    static class Tenant {
        int number, house, mood, out;
        boolean gone;
        int sighs(int v, int m, int night) { return v; }
        int sways(int v, int f) { return v + f; }
        boolean exempt(int night) { return false; }
        int kind() { return 0; }
    }

    static class Widow extends Tenant {
        @Override int sighs(int v, int m, int night) { return night < 10 * number ? 0 : super.sighs(v, m, night); }
        @Override int sways(int v, int f) { return v; }
        @Override boolean exempt(int night) { return number > 4; }
        @Override int kind() { return 1; }
    }

    static class Poet extends Tenant {
        @Override int sighs(int v, int m, int night) { return 3 * super.sighs(v, m, night); }
        @Override int sways(int v, int f) { return 2 * super.sways(v, f); }
        @Override int kind() { return 2; }
    }

    static class Aunt extends Widow {
        @Override int sighs(int v, int m, int night) { return super.sighs(v, m, night) / 2; }
        @Override int sways(int v, int f) { return super.sways(v, f) - 1; }
        @Override boolean exempt(int night) { return super.exempt(night) || night % 2 != 0; }
        @Override int kind() { return 3; }
    }

    static class Lover extends Poet {
        @Override int sighs(int v, int m, int night) { return m > 5 ? 0 : super.sighs(v, m, night); }
        @Override int sways(int v, int f) { return super.sways(v, f) + number; }
        @Override int kind() { return 4; }
    }

    static class Fool extends Tenant {
        @Override int sighs(int v, int m, int night) { return 0; }
        @Override int sways(int v, int f) { return 0; }
        @Override boolean exempt(int night) { return true; }
        @Override int kind() { return 5; }
    }

    private static final Class<?>[] KINDS =
        {Tenant.class, Widow.class, Poet.class, Aunt.class, Lover.class, Fool.class};

    static Tenant make(int kind, int number, int house) {
        Tenant t;
        switch (kind) {
            case 0: t = new Tenant(); break;
            case 1: t = new Widow(); break;
            case 2: t = new Poet(); break;
            case 3: t = new Aunt(); break;
            case 4: t = new Lover(); break;
            default: t = new Fool(); break;
        }
        t.number = number;
        t.house = house;
        return t;
    }

    static Tenant like(Tenant t, int kind) {
        Tenant u = make(kind, t.number, t.house);
        u.mood = t.mood;
        u.out = t.out;
        u.gone = t.gone;
        return u;
    }

    // ---- texts, as trees

    interface Node { int at(int[] names); }

    static final class Fault extends RuntimeException {
        final int place;
        Fault(int place) { super(null, null, false, false); this.place = place; }
    }

    static final String NAMES = " mood hour number others house fools ";

    static final class Parser {
        final String tape;
        final List<String> tokens = new ArrayList<>();
        final List<Integer> places = new ArrayList<>();
        int now = 0;
        int open = 0;

        /** Tokens from the first that none can stand for on are one token, "?". */
        Parser(String tape) {
            this.tape = tape;
            int i = 0;
            while (i < tape.length()) {
                char c = tape.charAt(i);
                if (c == 32 || c == 10) {
                    i++;
                    continue;
                }
                int j = i + 1;
                if (c >= 'a' && c <= 'z') {
                    while (j < tape.length() && tape.charAt(j) >= 'a' && tape.charAt(j) <= 'z') j++;
                } else if (c >= '0' && c <= '9') {
                    while (j < tape.length() && tape.charAt(j) >= '0' && tape.charAt(j) <= '9') j++;
                }
                tokens.add(tape.substring(i, j));
                places.add(i);
                i = j;
            }
            tokens.add("");
            places.add(tape.length());
        }

        Fault fault() { return new Fault(places.get(now)); }
        String peek() { return tokens.get(now); }
        void want(String s) { if (!peek().equals(s)) throw fault(); now++; }
        void descend() { if (open == 5) throw fault(); open++; }

        Node[] text() {
            Node[] parts = new Node[3];
            String[] keys = {"sighs", "moods", "pays"};
            for (int i = 0; i < 3; i++) {
                want(keys[i]);
                parts[i] = e();
                want(";");
            }
            want("");
            return parts;
        }

        Node e() {
            Node a = and();
            while (peek().equals("or")) {
                now++;
                Node l = a, r = and();
                a = n -> (l.at(n) != 0 | r.at(n) != 0) ? 1 : 0;
            }
            return a;
        }

        Node and() {
            Node a = not();
            while (peek().equals("and")) {
                now++;
                Node l = a, r = not();
                a = n -> (l.at(n) != 0 & r.at(n) != 0) ? 1 : 0;
            }
            return a;
        }

        Node not() {
            if (peek().equals("not")) {
                descend();
                now++;
                Node a = not();
                open--;
                return n -> a.at(n) == 0 ? 1 : 0;
            }
            Node a = sum();
            if (peek().equals("<")) {
                now++;
                Node b = sum();
                return n -> a.at(n) < b.at(n) ? 1 : 0;
            }
            if (peek().equals("=")) {
                now++;
                Node b = sum();
                return n -> a.at(n) == b.at(n) ? 1 : 0;
            }
            return a;
        }

        Node sum() {
            Node a = term();
            while (peek().equals("+") || peek().equals("-")) {
                int sign = peek().equals("+") ? 1 : -1;
                now++;
                Node l = a, r = term();
                a = n -> l.at(n) + sign * r.at(n);
            }
            return a;
        }

        Node term() {
            Node a = one();
            while (peek().equals("*")) {
                now++;
                Node l = a, r = one();
                a = n -> l.at(n) * r.at(n);
            }
            return a;
        }

        Node one() {
            String s = peek();
            if (s.matches("[0-9]{1,4}")) {
                now++;
                int v = Integer.parseInt(s);
                return n -> v;
            }
            if (s.matches("[a-z]+") && NAMES.contains(" " + s + " ")) {
                now++;
                int which = NAMES.substring(0, NAMES.indexOf(" " + s + " ") + 1).split(" ", -1).length - 2;
                return n -> n[which];
            }
            if (s.equals("-")) {
                descend();
                now++;
                Node a = one();
                open--;
                return n -> -a.at(n);
            }
            if (s.equals("(")) {
                descend();
                now++;
                Node a = e();
                want(")");
                open--;
                return a;
            }
            throw fault();
        }
    }

    // ---- the state

    List<Tenant> people = new ArrayList<>();
    int night = 0, paid = 0, rule = 0;
    StringBuilder tape = new StringBuilder();
    List<Node[]> texts = new ArrayList<>();
    List<Tenant> imagePeople = null;
    int imageNight, imagePaid, imageRule;
    Object[] sheets = new Object[4];

    PlainBorough() {
        texts.add(new Node[] {n -> 5 - n[0], n -> 0, n -> n[0]});
    }

    static List<Tenant> deep(List<Tenant> list) {
        List<Tenant> copies = new ArrayList<>();
        for (Tenant t : list) copies.add(like(t, t.kind()));
        return copies;
    }

    static int clamp(int v, int lo, int hi) { return v < lo ? lo : v > hi ? hi : v; }

    /** A whole night of some people. */
    final class Course {
        final int[][] mood, sigh;
        final int[][] reed = new int[5][6];
        final int[] due = new int[5];
        int all = 0;

        Course(List<Tenant> who, Node[] text) {
            int n = who.size();
            mood = new int[7][n];
            sigh = new int[6][n];
            int[] heard = new int[5], living = new int[5];
            for (int i = 0; i < n; i++) {
                mood[0][i] = who.get(i).mood;
                if (!who.get(i).gone) living[who.get(i).house]++;
            }
            for (int h = 0; h < 6; h++) {
                for (int i = 0; i < n; i++) {
                    Tenant t = who.get(i);
                    if (t.gone) continue;
                    if ((t.out & (1 << h)) != 0) {
                        mood[h + 1][i] = clamp(mood[h][i] + 1, -20, 20);
                        continue;
                    }
                    int others = 0, fools = 0;
                    for (int j = 0; j < n; j++) {
                        Tenant u = who.get(j);
                        if (j == i || u.gone || u.house != t.house || (u.out & (1 << h)) != 0) continue;
                        others++;
                        if (u instanceof Fool) fools++;
                    }
                    int[] names = {mood[h][i], h, t.number, others, t.house, fools};
                    sigh[h][i] = clamp(t.sighs(clamp(text[0].at(names), 0, 99), mood[h][i], night), 0, 999);
                    int sway = t.sways(clamp(text[1].at(names), -9, 9), fools);
                    mood[h + 1][i] = clamp(mood[h][i] + sway, -20, 20);
                    reed[t.house][h] += sigh[h][i];
                    if (!t.exempt(night)) heard[t.house] += sigh[h][i];
                }
            }
            for (int house = 0; house < 5; house++) {
                due[house] = clamp(text[2].at(new int[] {heard[house], 6, 0, living[house], house, 0}), 0, 9999);
                all += due[house];
            }
        }
    }

    Course now() { return new Course(people, texts.get(rule)); }
    Course with(List<Tenant> who) { return new Course(who, texts.get(rule)); }
    boolean has(int one) { return one >= 0 && one < people.size(); }

    // ---- the face

    int set(int what, int of, int v) {
        switch (what) {
            case 0: {
                if (v < 0 || v > 999) return -100;
                int was = night;
                night = v;
                return was;
            }
            case 1: {
                if (!has(of) || v < 0 || v > 9) return -100;
                int was = people.get(of).number;
                people.get(of).number = v;
                return was;
            }
            case 2: {
                if (!has(of) || v < 0 || v > 4) return -100;
                int was = people.get(of).house;
                people.get(of).house = v;
                return was;
            }
            case 3: {
                if (!has(of) || v < -20 || v > 20) return -100;
                int was = people.get(of).mood;
                people.get(of).mood = v;
                return was;
            }
            case 4: {
                if (!has(of) || v < 0 || v > 63) return -100;
                int was = people.get(of).out;
                people.get(of).out = v;
                return was;
            }
            default: return -100;
        }
    }

    int tenant(int kind, int number, int house) {
        if (kind < 0 || kind > 5 || number < 0 || number > 9 || house < 0 || house > 4) return BAD;
        if (people.size() == 8) return FULL;
        people.add(make(kind, number, house));
        return people.size() - 1;
    }

    int told(int of, int what) {
        if (what == 0) return night;
        if (!has(of)) return -100;
        Tenant t = people.get(of);
        if (what == 1) return t.number;
        if (what == 2) return t.house;
        if (what == 3) return t.mood;
        if (what == 4) return t.out;
        if (what == 5) return t.kind();
        if (what == 6) return t.exempt(night) ? 1 : 0;
        if (what >= 10 && what <= 15) return now().mood[what - 10][of];
        if (what >= 20 && what <= 25) return now().sigh[what - 20][of];
        return -100;
    }

    int feed(int letter) {
        if (letter < 0 || letter > 255) return BAD;
        if (tape.length() == 160) return FULL;
        tape.append((char) letter);
        return tape.length();
    }

    int text() {
        if (texts.size() == 6) return FULL;
        String s = tape.toString();
        tape.setLength(0);
        try {
            texts.add(new Parser(s).text());
            return texts.size() - 1;
        } catch (Fault f) {
            return -100 - f.place;
        }
    }

    int force(int text) {
        if (text < 0 || text >= texts.size()) return BAD;
        int was = rule;
        rule = text;
        return was;
    }

    int reed(int house, int hour) {
        return house < 0 || house > 4 || hour < 0 || hour > 5 ? BAD : now().reed[house][hour];
    }

    int due(int house) {
        return house == NONE ? now().all : house < 0 || house > 4 ? BAD : now().due[house];
    }

    int night() {
        if (night == 999) return STATE;
        int all = now().all;
        paid = Math.min(999999999, paid + all);
        night++;
        return all;
    }

    int loudest(int what) {
        if (what < 0 || what > 1) return BAD;
        Course c = now();
        int where = 0;
        for (int at = 0; at < 50; at++) {
            if (at % 10 < 6 && c.reed[at / 10][at % 10] > c.reed[where / 10][where % 10]) where = at;
        }
        return what == 0 ? where : c.reed[where / 10][where % 10];
    }

    int cost(int one) {
        if (!has(one)) return -100000;
        List<Tenant> rest = deep(people);
        rest.remove(one);
        return now().all - with(rest).all;
    }

    /** Of trials, each with its number ahead and ALL behind it. */
    int best(List<int[]> trials, int what) {
        int least = now().all, which = NONE;
        for (int[] t : trials) {
            if (t[1] < least) {
                least = t[1];
                which = t[0];
            }
        }
        return what == 0 ? which : least;
    }

    int moved(int what, boolean fools) {
        if (what < 0 || what > 1) return BAD;
        List<int[]> trials = new ArrayList<>();
        for (int i = 0; i < people.size(); i++) {
            if (fools && people.get(i).kind() != 5) continue;
            for (int h = 0; h < 5; h++) {
                List<Tenant> who = deep(people);
                who.get(i).house = h;
                trials.add(new int[] {10 * i + h, with(who).all});
            }
        }
        return best(trials, what);
    }

    int cheer(int what) { return moved(what, true); }
    int move(int what) { return moved(what, false); }

    int cart(int what) {
        if (what < 0 || what > 1) return BAD;
        List<int[]> trials = new ArrayList<>();
        for (int i = 0; i < people.size(); i++) {
            for (int h = 0; h < 6; h++) {
                List<Tenant> who = deep(people);
                who.get(i).out |= 1 << h;
                trials.add(new int[] {10 * i + h, with(who).all});
            }
        }
        return best(trials, what);
    }

    int few(int one, int k) {
        if (!has(one) || k < 0 || k > 9999) return BAD;
        int found = NONE;
        for (int out = 0; out < 64; out++) {
            List<Tenant> who = deep(people);
            who.get(one).out = out;
            if (with(who).due[who.get(one).house] > k) continue;
            if (found == NONE || Integer.bitCount(out) < Integer.bitCount(found)) found = out;
        }
        return found;
    }

    int change(int what) {
        if (what < 0 || what > 1) return BAD;
        List<int[]> trials = new ArrayList<>();
        for (int i = 0; i < people.size(); i++) {
            for (int j = i + 1; j < people.size(); j++) {
                List<Tenant> who = deep(people);
                who.get(i).house = people.get(j).house;
                who.get(j).house = people.get(i).house;
                trials.add(new int[] {10 * i + j, with(who).all});
            }
        }
        return best(trials, what);
    }

    static int length(Object row) {
        return row instanceof byte[] ? ((byte[]) row).length
            : row instanceof short[] ? ((short[]) row).length : ((int[]) row).length;
    }

    static int item(Object row, int i) {
        return row instanceof byte[] ? ((byte[]) row)[i]
            : row instanceof short[] ? ((short[]) row)[i] : ((int[]) row)[i];
    }

    static int first(Object row, int[] reeds) {
        for (int h = 0; h < 6; h++) if (reeds[h] != item(row, h)) return h;
        return NONE;
    }

    boolean fits(Object row, int house, List<Tenant> who) {
        return first(row, with(who).reed[house]) == NONE;
    }

    int tells(int sheet, int house, int one, int what) {
        if (sheet < 0 || sheet > 3 || house < 0 || house > 4 || what < 0 || what > 8) return BAD;
        if (what >= 2 && !has(one)) return BAD;
        Object row = sheets[sheet];
        if (row == null) return -11;
        if (length(row) != 6) return BAD;
        if (what == 0) return first(row, now().reed[house]);
        int bits = 0, many = 0, least = what == 6 ? -100 : NONE;
        if (what == 1) {
            for (int t = 0; t < texts.size(); t++) {
                if (first(row, new Course(people, texts.get(t)).reed[house]) == NONE) bits |= 1 << t;
            }
            return bits;
        }
        int[] lows = {0, 0, 0, 0, 0, -20, -20, 0, 0}, highs = {0, 0, 5, 9, 4, 20, 20, 63, 63};
        for (int v = highs[what]; v >= lows[what]; v--) {
            List<Tenant> who = deep(people);
            Tenant t = who.get(one);
            if (what == 2) who.set(one, like(t, v));
            else if (what == 3) t.number = v;
            else if (what == 4) t.house = v;
            else if (what <= 6) t.mood = v;
            else t.out = v;
            if (!fits(row, house, who)) continue;
            if (what <= 4) bits |= 1 << v;
            many++;
            least = v;
        }
        return what <= 4 ? bits : what == 5 || what == 7 ? many : least;
    }

    int film(int sheet, int house) {
        if (sheet < 0 || sheet > 3 || house < 0 || house > 4) return BAD;
        sheets[sheet] = now().reed[house].clone();
        return 6;
    }

    int drawn(int seed) {
        List<Tenant> who = deep(people);
        int z = seed;
        for (Tenant t : who) {
            z = z * 1103515245 + 12345;
            t.mood = (z >>> 9) % 41 - 20;
        }
        return with(who).all;
    }

    long chance(int seed, int n, int part) {
        if (n < 1 || n > 20 || part < 0 || part > 1) return RatedBySighs.NO;
        int more = 0;
        for (int i = 0; i < n; i++) if (drawn(seed + i) > now().all) more++;
        int by = n;
        while (more % by != 0 || n % by != 0) by--;
        return part == 0 ? more / by : n / by;
    }

    int image() {
        imagePeople = deep(people);
        imageNight = night;
        imagePaid = paid;
        imageRule = rule;
        return people.size();
    }

    int back() {
        if (imagePeople == null) return STATE;
        people = deep(imagePeople);
        night = imageNight;
        paid = imagePaid;
        rule = imageRule;
        return people.size();
    }

    int count(int what) {
        int fools = 0;
        for (Tenant t : people) if (t instanceof Fool) fools++;
        int[] all = {people.size(), fools, night, paid, texts.size(), tape.length(), rule};
        return what < 0 || what > 6 ? BAD : all[what];
    }

    int sheet(int sheet, int sort, int n) {
        if (sheet < 0 || sheet > 3 || sort < -1 || sort > 2) return BAD;
        if (sort >= 0 && n > 40) return BAD;
        if (sort >= 0 && n < 0) return -14;
        sheets[sheet] = sort == -1 ? null : sort == 0 ? new byte[n] : sort == 1 ? new short[n] : (Object) new int[n];
        return 1;
    }

    int cell(int sheet, int i, int v) {
        if (sheet < 0 || sheet > 3) return BAD;
        Object row = sheets[sheet];
        if (row == null) return -11;
        try {
            if (row instanceof byte[]) ((byte[]) row)[i] = (byte) v;
            else if (row instanceof short[]) ((short[]) row)[i] = (short) v;
            else ((int[]) row)[i] = v;
        } catch (ArrayIndexOutOfBoundsException e) {
            return -12;
        }
        return 1;
    }

    int copy(int sheet, int i, int other, int j, int n) {
        if (sheet < 0 || sheet > 3 || other < 0 || other > 3) return BAD;
        try {
            System.arraycopy(sheets[sheet], i, sheets[other], j, n);
        } catch (NullPointerException e) {
            return -11;
        } catch (ArrayStoreException e) {
            return -13;
        } catch (IndexOutOfBoundsException e) {
            return -12;
        }
        return n;
    }

    int tenants(int sheet, int sort, int from, int n) {
        if (sheet < 0 || sheet > 3 || sort < 0 || sort > 2 || n < 0 || n > 8) return BAD;
        Object row = sheets[sheet];
        Class<?>[] sorts = {byte[].class, short[].class, int[].class};
        if (row != null && row.getClass() != sorts[sort]) return -13;
        if (row == null) return -11;
        int came = 0;
        for (int i = 0; i < n; i++) {
            long at = (long) from + 3 * i;
            if (at < 0 || at + 2 >= length(row)) return -12;
            int a = (int) at;
            if (tenant(item(row, a), item(row, a + 1), item(row, a + 2)) >= 0) came++;
        }
        return came;
    }

    int taken(int one, int k) {
        if (k < 0 || k > 5) return BAD;
        if (!has(one)) return -11;
        return KINDS[k].isInstance(people.get(one)) ? people.get(one).number : -13;
    }
}
