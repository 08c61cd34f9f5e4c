/** Terms 3 (SHEETS) and promises 25 to 29: each sentence that names an edge, by itself. */
public final class EdgesOfTheHostTest {
    private static final Check CHECK = new Check("EdgesOfTheHostTest");
    private static final int FAR = Integer.MAX_VALUE, DEEP = Integer.MIN_VALUE;
    private static final int[] NO_SHEETS = {-1, 4, 5, FAR, DEEP};

    public static void main(String[] args) {
        sheetRows();
        sheetMissing();
        sheetRefuses();
        cells();
        cellRefuses();
        cellsOfSorts();
        copies();
        copiesWithinOne();
        copyRefuses();
        copyOutside();
        tenants();
        tenantsLeftOut();
        tenantsFull();
        tenantsOutside();
        tenantsRefuses();
        taken();
        takenRefuses();
        CHECK.end();
    }

    /** The items of a row, of which each must be a NUMBER, read by those who come of it and go again. */
    private static void holds(RatedBySighs x, int sheet, int sort, int... items) {
        x.image();
        for (int at = 0; at < items.length; at++) {
            // The item is the NUMBER of one who comes: sheet 3 is built around it.
            x.sheet(3, sort, 3);
            CHECK.due("item " + at, x.copy(sheet, at, 3, 1, 1), 1);
            CHECK.due("one comes by item " + at, x.tenants(3, sort, 0, 1), 1);
            CHECK.due("item " + at, x.told(x.count(0) - 1, 1), items[at]);
            x.back();
        }
        x.sheet(3, -1, 0);
        CHECK.due("no more items", x.copy(sheet, 0, sheet, 0, items.length + 1), -12);
    }

    // ---- sheets

    private static void sheetRows() {
        CHECK.says("A SHEET becomes a row of n of a sort, all 0: 1");
        for (int sort = 0; sort < 3; sort++) {
            for (int n : new int[] {0, 1, 39, 40}) {
                RatedBySighs x = new RatedBySighs();
                for (int sheet = 0; sheet < 4; sheet++) {
                    CHECK.due("sheet " + sheet + " of " + n, x.sheet(sheet, sort, n), 1);
                    CHECK.due("its last item", x.cell(sheet, n - 1, 1), n == 0 ? -12 : 1);
                    CHECK.due("behind its last", x.cell(sheet, n, 1), -12);
                    for (int other = 0; other < 3; other++) {
                        CHECK.due("its sort", x.tenants(sheet, other, 0, 0), other == sort ? 0 : -13);
                    }
                }
            }
            RatedBySighs x = new RatedBySighs();
            Check.row(x, 0, sort, 9, 8, 7, 6);
            x.sheet(0, sort, 2);
            holds(x, 0, sort, 0, 0);
            x.sheet(0, sort, 4);
            holds(x, 0, sort, 0, 0, 0, 0);
        }
    }

    private static void sheetMissing() {
        CHECK.says("or missing (sort -1: n does not matter): 1");
        for (int n : new int[] {0, 1, 40, 41, -1, FAR, DEEP}) {
            RatedBySighs x = new RatedBySighs();
            CHECK.due("missing already", x.sheet(2, -1, n), 1);
            x.sheet(2, 1, 3);
            CHECK.due("missing", x.sheet(2, -1, n), 1);
            CHECK.due("it is", x.cell(2, 0, 0), -11);
            CHECK.due("another one is not", x.sheet(1, 0, 1), 1);
            CHECK.due("another one is not", x.cell(1, 0, 1), 1);
        }
    }

    private static void sheetRefuses() {
        CHECK.says("sheet: BAD: no such SHEET, sort; n above 40; -14");
        RatedBySighs x = new RatedBySighs();
        Check.row(x, 0, 1, 5, 6);
        for (int sheet : NO_SHEETS) {
            for (int n : new int[] {0, 41, -1}) {
                CHECK.due("sheet " + sheet, x.sheet(sheet, 0, n), -2);
                CHECK.due("sheet " + sheet + " missing", x.sheet(sheet, -1, n), -2);
            }
        }
        for (int sort : new int[] {-2, 3, FAR, DEEP}) {
            for (int n : new int[] {0, 41, -1}) {
                CHECK.due("sort " + sort, x.sheet(0, sort, n), -2);
            }
        }
        for (int sort = 0; sort < 3; sort++) {
            for (int n : new int[] {41, 160, FAR}) {
                CHECK.due("n " + n, x.sheet(0, sort, n), -2);
            }
            for (int n : new int[] {-1, -40, DEEP}) {
                CHECK.due("n " + n, x.sheet(0, sort, n), -14);
            }
        }
        holds(x, 0, 1, 5, 6);
    }

    private static void cells() {
        CHECK.says("Item i of a SHEET becomes v: 1");
        for (int sort = 0; sort < 3; sort++) {
            RatedBySighs x = new RatedBySighs();
            x.sheet(1, sort, 3);
            CHECK.due("the first", x.cell(1, 0, 4), 1);
            holds(x, 1, sort, 4, 0, 0);
            CHECK.due("the last", x.cell(1, 2, 9), 1);
            holds(x, 1, sort, 4, 0, 9);
            CHECK.due("once more", x.cell(1, 2, 1), 1);
            holds(x, 1, sort, 4, 0, 1);
        }
    }

    private static void cellRefuses() {
        CHECK.says("cell: BAD: no such SHEET; -11; -12");
        RatedBySighs x = new RatedBySighs();
        Check.row(x, 0, 0, 3, 4);
        for (int sheet : NO_SHEETS) {
            CHECK.due("sheet " + sheet, x.cell(sheet, 0, 0), -2);
            CHECK.due("sheet " + sheet, x.cell(sheet, -1, 0), -2);
        }
        for (int i : new int[] {0, -1, 40, FAR, DEEP}) {
            CHECK.due("of a missing one", x.cell(1, i, 0), -11);
        }
        for (int i : new int[] {-1, 2, 39, 40, FAR, DEEP}) {
            CHECK.due("item " + i, x.cell(0, i, 7), -12);
        }
        holds(x, 0, 0, 3, 4);
        x.sheet(2, 2, 0);
        CHECK.due("of an empty one", x.cell(2, 0, 0), -12);
    }

    private static void cellsOfSorts() {
        CHECK.says("of bytes, shorts its lowest 8, 16 bits");
        int[] values = {7, 7 + 256, 7 - 256, 7 + 65536, 7 - 65536, 7 + (1 << 30), DEEP + 7, 7 + 128, 7 + 32768};
        boolean[] seven = new boolean[3];
        for (int v : values) {
            for (int sort = 0; sort < 3; sort++) {
                RatedBySighs x = new RatedBySighs();
                Check.row(x, 0, sort, 0, v, 0);
                boolean comes = sort == 0 ? (v & 255) == 7 : sort == 1 ? (v & 65535) == 7 : v == 7;
                CHECK.due(v + " in sort " + sort, x.tenants(0, sort, 0, 1), comes ? 1 : 0);
                CHECK.due(v + " in sort " + sort, x.told(0, 1), comes ? 7 : -100);
                seven[sort] |= comes && v != 7;
            }
        }
        CHECK.holds("bytes and shorts were cut, ints not", seven[0] && seven[1] && !seven[2]);
    }

    // ---- copies

    private static void copies() {
        CHECK.says("n numbers of a SHEET, from item i on, come to another one's item j on: n");
        for (int sort = 0; sort < 3; sort++) {
            RatedBySighs x = new RatedBySighs();
            Check.row(x, 0, sort, 1, 2, 3, 4);
            Check.row(x, 1, sort, 5, 6, 7);
            CHECK.due("the first", x.copy(0, 0, 1, 0, 1), 1);
            holds(x, 1, sort, 1, 6, 7);
            CHECK.due("the last", x.copy(0, 3, 1, 2, 1), 1);
            holds(x, 1, sort, 1, 6, 4);
            CHECK.due("all of the shorter", x.copy(0, 1, 1, 0, 3), 3);
            holds(x, 1, sort, 2, 3, 4);
            CHECK.due("all to the longer", x.copy(1, 0, 0, 0, 3), 3);
            holds(x, 0, sort, 2, 3, 4, 4);
            CHECK.due("none", x.copy(0, 0, 1, 0, 0), 0);
            CHECK.due("none, from the end on", x.copy(0, 4, 1, 3, 0), 0);
            holds(x, 1, sort, 2, 3, 4);
            holds(x, 0, sort, 2, 3, 4, 4);
        }
        RatedBySighs x = new RatedBySighs();
        x.sheet(0, 0, 0);
        x.sheet(1, 0, 0);
        CHECK.due("none of an empty one", x.copy(0, 0, 1, 0, 0), 0);
        CHECK.due("one of an empty one", x.copy(0, 0, 1, 0, 1), -12);
        x.sheet(0, 1, 40);
        x.sheet(1, 1, 40);
        CHECK.due("all forty", x.copy(0, 0, 1, 0, 40), 40);
        CHECK.due("41", x.copy(0, 0, 1, 0, 41), -12);
    }

    private static void copiesWithinOne() {
        CHECK.says("(as they were)");
        for (int sort = 0; sort < 3; sort++) {
            RatedBySighs x = new RatedBySighs();
            Check.row(x, 0, sort, 1, 2, 3, 4, 5);
            CHECK.due("one further", x.copy(0, 0, 0, 1, 4), 4);
            holds(x, 0, sort, 1, 1, 2, 3, 4);
            CHECK.due("two back", x.copy(0, 2, 0, 0, 3), 3);
            holds(x, 0, sort, 2, 3, 4, 3, 4);
            CHECK.due("on itself", x.copy(0, 0, 0, 0, 5), 5);
            holds(x, 0, sort, 2, 3, 4, 3, 4);
        }
    }

    private static void copyRefuses() {
        CHECK.says("copy: BAD: no such SHEET; -11; -13: they are of unlike sorts; -12");
        RatedBySighs x = new RatedBySighs();
        for (int sort = 0; sort < 3; sort++) {
            Check.row(x, sort, sort, 1, 2, 3);
        }
        for (int sheet : NO_SHEETS) {
            CHECK.due("from " + sheet, x.copy(sheet, 0, 0, 0, 1), -2);
            CHECK.due("to " + sheet, x.copy(0, 0, sheet, 0, 1), -2);
            CHECK.due("from a missing one to " + sheet, x.copy(3, 0, sheet, 0, -1), -2);
            CHECK.due("from " + sheet + " to a missing one", x.copy(sheet, -1, 3, 0, 1), -2);
        }
        for (int n : new int[] {-1, 0, 1, 4}) {
            CHECK.due("from a missing one", x.copy(3, 0, 0, 0, n), -11);
            CHECK.due("to a missing one", x.copy(0, 0, 3, 0, n), -11);
            CHECK.due("of a missing one to itself", x.copy(3, 0, 3, 0, n), -11);
            for (int from = 0; from < 3; from++) {
                for (int to = 0; to < 3; to++) {
                    if (from != to) {
                        CHECK.due("of " + n + ", unlike", x.copy(from, 0, to, 0, n), -13);
                        CHECK.due("of " + n + ", unlike and outside", x.copy(from, 9, to, -1, n), -13);
                    }
                }
            }
        }
        for (int sort = 0; sort < 3; sort++) {
            holds(x, sort, sort, 1, 2, 3);
        }
    }

    private static void copyOutside() {
        CHECK.says("-12 (also with n below 0)");
        RatedBySighs x = new RatedBySighs();
        Check.row(x, 0, 2, 1, 2, 3);
        Check.row(x, 1, 2, 4, 5, 6, 7);
        int[][] outside = {{0, 0, -1}, {0, 0, DEEP}, {-1, 0, 1}, {0, -1, 1}, {-1, 0, 0}, {0, -1, 0}, {DEEP, 0, 1},
            {0, DEEP, 1}, {3, 0, 1}, {0, 4, 1}, {4, 0, 0}, {0, 5, 0}, {2, 0, 2}, {0, 3, 2}, {0, 0, 4}, {0, 0, FAR},
            {1, 0, FAR}, {0, 1, FAR}, {FAR, 0, 1}, {0, FAR, 1}, {FAR, FAR, FAR}, {FAR, 0, 0}, {DEEP, DEEP, DEEP}};
        for (int[] o : outside) {
            CHECK.due("from " + o[0] + " to " + o[1] + " of " + o[2], x.copy(0, o[0], 1, o[1], o[2]), -12);
        }
        CHECK.due("back, where the other is shorter", x.copy(1, 0, 0, 0, 4), -12);
        holds(x, 0, 2, 1, 2, 3);
        holds(x, 1, 2, 4, 5, 6, 7);
    }

    // ---- people by a sheet

    private static void one(RatedBySighs x, int one, int kind, int number, int house) {
        CHECK.due("kind of " + one, x.told(one, 5), kind);
        CHECK.due("number of " + one, x.told(one, 1), number);
        CHECK.due("house of " + one, x.told(one, 2), house);
        CHECK.due("mood of " + one, x.told(one, 3), 0);
        CHECK.due("out of " + one, x.told(one, 4), 0);
    }

    private static void tenants() {
        CHECK.says("from one on, three by three (as of tenant()), n of them (0 .. 8): how many came");
        for (int sort = 0; sort < 3; sort++) {
            RatedBySighs x = new RatedBySighs();
            Check.row(x, 2, sort, 5, 9, 4, 2, 1, 0, 3);
            CHECK.due("none", x.tenants(2, sort, 0, 0), 0);
            CHECK.due("nobody came", x.count(0), 0);
            CHECK.due("one", x.tenants(2, sort, 0, 1), 1);
            CHECK.due("one, to the end", x.tenants(2, sort, 4, 1), 1);
            CHECK.due("two", x.tenants(2, sort, 0, 2), 2);
            CHECK.due("one, from 2 on", x.tenants(2, sort, 2, 1), 1);
            one(x, 0, 5, 9, 4);
            one(x, 1, 1, 0, 3);
            one(x, 2, 5, 9, 4);
            one(x, 3, 2, 1, 0);
            one(x, 4, 4, 2, 1);
            CHECK.due("five", x.count(0), 5);
            x = new RatedBySighs();
            x.sheet(2, sort, 40);
            CHECK.due("eight, to the end", x.tenants(2, sort, 16, 8), 8);
        }
    }

    private static void tenantsLeftOut() {
        CHECK.says("(others are left out)");
        int[][] wrong = {{-1, 0, 0}, {6, 0, 0}, {0, -1, 0}, {0, 10, 0}, {0, 0, -1}, {0, 0, 5}};
        for (int[] w : wrong) {
            RatedBySighs x = new RatedBySighs();
            Check.row(x, 0, 1, 1, 1, 1, w[0], w[1], w[2], 3, 3, 3);
            CHECK.due("two of three", x.tenants(0, 1, 0, 3), 2);
            one(x, 0, 1, 1, 1);
            one(x, 1, 3, 3, 3);
            CHECK.due("two", x.count(0), 2);
            CHECK.due("that one alone", x.tenants(0, 1, 3, 1), 0);
        }
    }

    private static void tenantsFull() {
        CHECK.says("(others are left out): who has no room");
        RatedBySighs x = new RatedBySighs();
        x.sheet(0, 0, 24);
        x.tenant(2, 2, 2);
        CHECK.due("seven of eight", x.tenants(0, 0, 0, 8), 7);
        CHECK.due("none of eight", x.tenants(0, 0, 0, 8), 0);
        CHECK.due("eight", x.count(0), 8);
        CHECK.due("none, and outside", x.tenants(0, 0, 3, 8), -12);
    }

    private static void tenantsOutside() {
        CHECK.says("-12: what stood ahead came");
        for (int size = 0; size < 10; size++) {
            RatedBySighs x = new RatedBySighs();
            x.sheet(0, 2, size);
            CHECK.due("three of a row of " + size, x.tenants(0, 2, 0, 3), size == 9 ? 3 : -12);
            CHECK.due("who came of a row of " + size, x.count(0), size / 3);
        }
        RatedBySighs x = new RatedBySighs();
        x.sheet(0, 2, 6);
        for (int from : new int[] {-1, -3, -6, DEEP, DEEP + 1, FAR, FAR - 1, FAR - 2, FAR - 5, 4, 5, 6, 7}) {
            for (int n : new int[] {1, 2, 8}) {
                CHECK.due("from " + from, x.tenants(0, 2, from, n), -12);
            }
        }
        CHECK.due("nobody came", x.count(0), 0);
        CHECK.due("from 3, the second is outside", x.tenants(0, 2, 3, 2), -12);
        CHECK.due("the first came", x.count(0), 1);
        CHECK.says("n of them (0 .. 8): of none no place is asked");
        for (int from : new int[] {-1, 6, 7, FAR, DEEP}) {
            CHECK.due("none from " + from, x.tenants(0, 2, from, 0), 0);
        }
    }

    private static void tenantsRefuses() {
        CHECK.says("tenants: BAD: no such SHEET, sort, n; -13; -11; -12");
        RatedBySighs x = new RatedBySighs();
        x.sheet(0, 1, 24);
        for (int sheet : NO_SHEETS) {
            CHECK.due("sheet " + sheet, x.tenants(sheet, 1, 0, 1), -2);
        }
        for (int sort : new int[] {-1, 3, FAR, DEEP}) {
            CHECK.due("sort " + sort, x.tenants(0, sort, 0, 1), -2);
            CHECK.due("sort " + sort + " of a missing one", x.tenants(1, sort, 0, 1), -2);
        }
        for (int n : new int[] {-1, 9, FAR, DEEP}) {
            CHECK.due("n " + n, x.tenants(0, 1, 0, n), -2);
            CHECK.due("n " + n + ", unlike", x.tenants(0, 0, 0, n), -2);
            CHECK.due("n " + n + " of a missing one", x.tenants(1, 1, 0, n), -2);
        }
        for (int sort : new int[] {0, 2}) {
            for (int n : new int[] {0, 1, 8}) {
                CHECK.due("unlike", x.tenants(0, sort, 0, n), -13);
                CHECK.due("unlike and outside", x.tenants(0, sort, -1, n), -13);
            }
        }
        for (int sort = 0; sort < 3; sort++) {
            for (int n : new int[] {0, 1, 8}) {
                CHECK.due("missing", x.tenants(1, sort, 0, n), -11);
                CHECK.due("missing and outside", x.tenants(1, sort, -1, n), -11);
            }
        }
        CHECK.due("nobody came", x.count(0), 0);
    }

    // ---- taken for one of a kind

    private static void taken() {
        CHECK.says("of KIND k, or one under that one (also by others between): the NUMBER; -13");
        int[][] over = {{0}, {0, 1}, {0, 2}, {0, 1, 3}, {0, 2, 4}, {0, 5}};
        for (int kind = 0; kind < 6; kind++) {
            for (int number : new int[] {0, 9}) {
                RatedBySighs x = new RatedBySighs();
                x.tenant(kind, number, 0);
                for (int k = 0; k < 6; k++) {
                    int due = -13;
                    for (int o : over[kind]) {
                        due = o == k ? number : due;
                    }
                    CHECK.due("kind " + kind + " for " + k, x.taken(0, k), due);
                }
            }
        }
    }

    private static void takenRefuses() {
        CHECK.says("taken: BAD: k; -11: none such; -13");
        RatedBySighs x = new RatedBySighs();
        CHECK.due("nobody there", x.taken(0, 0), -11);
        for (int i = 0; i < 8; i++) {
            x.tenant(1, i, 0);
        }
        CHECK.due("the last one", x.taken(7, 0), 7);
        for (int one : new int[] {-1, 8, FAR, DEEP}) {
            for (int k = 0; k < 6; k++) {
                CHECK.due("one " + one + " for " + k, x.taken(one, k), -11);
            }
            CHECK.due("one " + one + " for 6", x.taken(one, 6), -2);
            CHECK.due("one " + one + " for -1", x.taken(one, -1), -2);
        }
        for (int k : new int[] {-1, 6, FAR, DEEP}) {
            CHECK.due("for " + k, x.taken(0, k), -2);
        }
    }
}
