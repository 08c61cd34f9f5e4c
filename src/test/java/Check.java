/** What the project's tests share: each call whose answer is not the one that is due is printed and counted. */
final class Check {
    private final String test;
    private int wrong = 0;
    private int calls = 0;
    private String sentence = "";

    Check(String test) {
        this.test = test;
    }

    /** What is checked from here on is what the document says by this sentence. */
    void says(String sentence) {
        this.sentence = sentence + " -- ";
    }

    void due(String call, long got, long want) {
        calls++;
        if (got != want) {
            wrong++;
            System.out.println(test + ": " + sentence + call + " answered " + got + ", due is " + want);
        }
    }

    void holds(String what, boolean so) {
        due(what, so ? 1 : 0, 1);
    }

    static RatedBySighs fed(RatedBySighs x, String tape) {
        for (int i = 0; i < tape.length(); i++) {
            x.feed(tape.charAt(i));
        }
        return x;
    }

    /** The text's number or fault. */
    static int text(RatedBySighs x, String tape) {
        return fed(x, tape).text();
    }

    /** A new object whose rule is that text. */
    static RatedBySighs ruled(String tape) {
        RatedBySighs x = new RatedBySighs();
        x.force(text(x, tape));
        return x;
    }

    /** The sheet becomes a row of that sort with these items. */
    static void row(RatedBySighs x, int sheet, int sort, int... items) {
        x.sheet(sheet, sort, items.length);
        for (int i = 0; i < items.length; i++) {
            x.cell(sheet, i, items[i]);
        }
    }

    void end() {
        System.out.println(test + ": " + calls + " answers, " + wrong + " not as due");
        if (wrong != 0) {
            System.exit(1);
        }
    }
}
