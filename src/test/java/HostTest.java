/** Promises 25 to 29. */
public final class HostTest {
    private static final Check CHECK = new Check("HostTest");
    private static final int FAR = Integer.MAX_VALUE, DEEP = Integer.MIN_VALUE;

    public static void main(String[] args) {
        sheet();
        sheetRefuses();
        cell();
        copy();
        copyRefuses();
        tenants();
        tenantsOutside();
        tenantsRefuses();
        taken();
        CHECK.end();
    }

    /** What a sheet holds, read by kinds of people: none of them comes by a 9. */
    private static void holds(RatedBySighs x, int sheet, int sort, int... triple) {
        x.image();
        CHECK.due("they come", x.tenants(sheet, sort, 0, 1), 1);
        int one = x.count(0) - 1;
        CHECK.due("item 0", x.told(one, 5), triple[0]);
        CHECK.due("item 1", x.told(one, 1), triple[1]);
        CHECK.due("item 2", x.told(one, 2), triple[2]);
        x.back();
    }

    private static void sheet() {
        RatedBySighs x = new RatedBySighs();
        for (int sort = 0; sort < 3; sort++) {
            CHECK.due("sheet of sort " + sort, x.sheet(sort, sort, 40), 1);
            CHECK.due("its last item", x.cell(sort, 39, 1), 1);
            CHECK.due("behind it", x.cell(sort, 40, 1), -12);
        }
        CHECK.due("sheet 3", x.sheet(3, 2, 0), 1);
        CHECK.due("an empty row is not missing", x.cell(3, 0, 1), -12);
        CHECK.due("missing", x.sheet(3, -1, 0), 1);
        CHECK.due("it is", x.cell(3, 0, 1), -11);
        CHECK.due("missing, n does not matter", x.sheet(2, -1, -1), 1);
        CHECK.due("missing, n does not matter", x.sheet(1, -1, 41), 1);
        CHECK.due("it is", x.cell(2, 0, 1), -11);
        CHECK.due("it is", x.cell(1, 0, 1), -11);
        Check.row(x, 0, 2, 4, 3, 2);
        holds(x, 0, 2, 4, 3, 2);
        x.sheet(0, 2, 3);
        holds(x, 0, 2, 0, 0, 0);
    }

    private static void sheetRefuses() {
        RatedBySighs x = new RatedBySighs();
        Check.row(x, 0, 1, 1, 2, 3);
        int[][] bad = {{-1, 0, 1}, {4, 0, 1}, {0, -2, 1}, {0, 3, 1}, {0, 0, 41}, {0, 0, FAR}, {FAR, 0, 0}, {0, DEEP, 0},
            {4, 0, -1}, {0, 3, -1}, {4, -1, 0}};
        for (int[] b : bad) {
            CHECK.due("bad sheet", x.sheet(b[0], b[1], b[2]), -2);
        }
        CHECK.due("below 0", x.sheet(0, 0, -1), -14);
        CHECK.due("below 0", x.sheet(0, 2, DEEP), -14);
        holds(x, 0, 1, 1, 2, 3);
    }

    private static void cell() {
        RatedBySighs x = new RatedBySighs();
        x.sheet(0, 0, 3);
        x.sheet(1, 1, 3);
        x.sheet(2, 2, 3);
        CHECK.due("a byte", x.cell(0, 0, 256 + 3), 1);
        CHECK.due("a byte", x.cell(0, 1, -256 + 9), 1);
        holds(x, 0, 0, 3, 9, 0);
        CHECK.due("a short", x.cell(1, 0, 65536 + 3), 1);
        CHECK.due("a short", x.cell(1, 1, -65536 + 8), 1);
        holds(x, 1, 1, 3, 8, 0);
        CHECK.due("a short is more than a byte", x.cell(1, 0, 256 + 3), 1);
        CHECK.due("nobody by that", x.tenants(1, 1, 0, 1), 0);
        CHECK.due("an int is more than a short", x.cell(2, 0, 65536 + 3), 1);
        CHECK.due("nobody by that", x.tenants(2, 2, 0, 1), 0);
        for (int sheet : new int[] {-1, 4, FAR, DEEP}) {
            CHECK.due("no such sheet", x.cell(sheet, 0, 0), -2);
        }
        CHECK.due("missing", x.cell(3, 0, 0), -11);
        CHECK.due("missing ahead of outside", x.cell(3, -1, 0), -11);
        for (int i : new int[] {-1, 3, FAR, DEEP}) {
            CHECK.due("outside", x.cell(0, i, 0), -12);
        }
    }

    private static void copy() {
        RatedBySighs x = new RatedBySighs();
        Check.row(x, 0, 1, 1, 2, 3, 4, 5);
        Check.row(x, 1, 1, 0, 0, 0, 0);
        CHECK.due("copy", x.copy(0, 1, 1, 0, 3), 3);
        holds(x, 1, 1, 2, 3, 4);
        CHECK.due("ahead, within one", x.copy(0, 0, 0, 1, 4), 4);
        // 1 1 2 3 4: as they were, not as they became.
        holds(x, 0, 1, 1, 1, 2);
        CHECK.due("its end", x.copy(0, 2, 1, 0, 3), 3);
        holds(x, 1, 1, 2, 3, 4);
        CHECK.due("back, within one", x.copy(0, 2, 0, 0, 3), 3);
        holds(x, 0, 1, 2, 3, 4);
        CHECK.due("nothing", x.copy(0, 5, 1, 4, 0), 0);
        CHECK.due("all", x.copy(1, 0, 0, 1, 4), 4);
    }

    private static void copyRefuses() {
        RatedBySighs x = new RatedBySighs();
        Check.row(x, 0, 1, 1, 2, 3);
        Check.row(x, 1, 1, 4, 4, 4);
        x.sheet(2, 2, 3);
        int[][] bad = {{-1, 0}, {4, 0}, {0, -1}, {0, 4}, {FAR, 0}, {0, DEEP}, {4, 3}, {3, 4}};
        for (int[] b : bad) {
            CHECK.due("bad copy", x.copy(b[0], 0, b[1], 0, 1), -2);
        }
        CHECK.due("from a missing one", x.copy(3, 0, 0, 0, 1), -11);
        CHECK.due("to a missing one", x.copy(0, 0, 3, 0, 1), -11);
        CHECK.due("missing ahead of outside", x.copy(0, -1, 3, 0, 1), -11);
        CHECK.due("unlike", x.copy(0, 0, 2, 0, 1), -13);
        CHECK.due("unlike ahead of outside", x.copy(0, 9, 2, 0, -1), -13);
        int[][] outside = {{0, 0, -1}, {-1, 0, 1}, {0, -1, 1}, {0, 0, 4}, {1, 0, 3}, {0, 1, 3}, {4, 0, 0}, {0, 4, 0},
            {FAR, 0, FAR}, {0, FAR, FAR}, {1, 0, FAR}, {0, 1, FAR}, {DEEP, 0, 1}, {0, 0, DEEP}};
        for (int[] o : outside) {
            CHECK.due("outside", x.copy(0, o[0], 1, o[1], o[2]), -12);
        }
        holds(x, 1, 1, 4, 4, 4);
    }

    private static void tenants() {
        RatedBySighs x = new RatedBySighs();
        Check.row(x, 0, 0, 9, 2, 7, 1, 6, 0, 0, 0, 10, 0, 0, 0, 5, 5, 9, 4, -1, 0, 0);
        CHECK.due("two of six", x.tenants(0, 0, 1, 6), 2);
        int[][] due = {{2, 7, 1}, {5, 9, 4}};
        for (int i = 0; i < 2; i++) {
            CHECK.due("kind", x.told(i, 5), due[i][0]);
            CHECK.due("number", x.told(i, 1), due[i][1]);
            CHECK.due("house", x.told(i, 2), due[i][2]);
        }
        CHECK.due("none of none", x.tenants(0, 0, 0, 0), 0);
        Check.row(x, 1, 2, new int[24]);
        CHECK.due("six have room", x.tenants(1, 2, 0, 8), 6);
        CHECK.due("eight", x.count(0), 8);
        CHECK.due("none has room", x.tenants(1, 2, 0, 8), 0);
    }

    private static void tenantsOutside() {
        RatedBySighs x = new RatedBySighs();
        Check.row(x, 0, 1, 1, 1, 1, 2, 2, 2, 3, 3);
        CHECK.due("the third is outside in part", x.tenants(0, 1, 0, 3), -12);
        CHECK.due("two stood ahead", x.count(0), 2);
        CHECK.due("just two", x.tenants(0, 1, 0, 2), 2);
        CHECK.due("from ahead of all", x.tenants(0, 1, -1, 1), -12);
        CHECK.due("from behind all", x.tenants(0, 1, 8, 1), -12);
        CHECK.due("far", x.tenants(0, 1, FAR, 8), -12);
        CHECK.due("far", x.tenants(0, 1, FAR - 2, 2), -12);
        CHECK.due("deep", x.tenants(0, 1, DEEP, 8), -12);
        CHECK.due("nobody by these", x.count(0), 4);
        x.sheet(1, 1, 2);
        CHECK.due("a row of two", x.tenants(1, 1, 0, 1), -12);
        x.sheet(1, 1, 24);
        CHECK.due("outside, though there is no room", x.tenants(1, 1, 3, 8), -12);
        CHECK.due("all came that had room", x.count(0), 8);
    }

    private static void tenantsRefuses() {
        RatedBySighs x = new RatedBySighs();
        x.sheet(0, 1, 24);
        int[][] bad = {{-1, 1, 1}, {4, 1, 1}, {0, -1, 1}, {0, 3, 1}, {0, 1, -1}, {0, 1, 9}, {1, 3, 1}, {0, 0, 9}, {1, 1, 9}};
        for (int[] b : bad) {
            CHECK.due("bad tenants", x.tenants(b[0], b[1], 0, b[2]), -2);
        }
        CHECK.due("not bytes", x.tenants(0, 0, 0, 1), -13);
        CHECK.due("not ints", x.tenants(0, 2, 0, 0), -13);
        CHECK.due("unlike ahead of outside", x.tenants(0, 2, -1, 1), -13);
        CHECK.due("missing", x.tenants(1, 0, 0, 1), -11);
        CHECK.due("missing, though none is asked", x.tenants(1, 2, 0, 0), -11);
        CHECK.due("missing ahead of outside", x.tenants(1, 2, -1, 1), -11);
        CHECK.due("nobody came", x.count(0), 0);
    }

    private static void taken() {
        RatedBySighs x = new RatedBySighs();
        for (int kind = 0; kind < 6; kind++) {
            x.tenant(kind, kind + 3, 0);
        }
        // Bits of the kinds for which one can be taken.
        int[] as = {0b000001, 0b000011, 0b000101, 0b001011, 0b010101, 0b100001};
        for (int one = 0; one < 6; one++) {
            for (int k = 0; k < 6; k++) {
                CHECK.due("one " + one + " for " + k, x.taken(one, k), (as[one] >> k & 1) == 1 ? one + 3 : -13);
            }
        }
        for (int k : new int[] {-1, 6, FAR, DEEP}) {
            CHECK.due("no such kind", x.taken(0, k), -2);
            CHECK.due("no such kind ahead of nobody", x.taken(6, k), -2);
        }
        for (int one : new int[] {-1, 6, FAR, DEEP}) {
            CHECK.due("nobody", x.taken(one, 0), -11);
        }
    }
}
