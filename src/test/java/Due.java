/** What the project's tests share: counts the answers that are not as due, and fills sheets of an object. */
final class Due {
    static final long LOST = Long.MIN_VALUE;
    /** The document's hotel of the shared runs: 2 stars, strict 6, three doings, a guest, a critic, a poet, a guest. */
    static final String INN = "z26/33/60/91;g10;c41;p21;g92";
    private static int wrong = 0;
    private static int asked = 0;

    static void is(String call, long got, long want) {
        asked++;
        if (got == want) return;
        wrong++;
        System.out.println(call + " answered " + got + ", due is " + want);
    }

    static void end() {
        System.out.println(asked + " answers, " + wrong + " not as due");
        if (wrong != 0 || asked == 0) System.exit(1);
    }

    static int[] codes(String text) {
        int[] row = new int[text.length()];
        for (int i = 0; i < row.length; i++) row[i] = text.charAt(i);
        return row;
    }

    /** A new row of sheet k with just these cells. */
    static void fill(StarLess x, int k, int lane, int... cells) {
        is("sheet", x.sheet(k, lane, cells.length), 1);
        for (int i = 0; i < cells.length; i++) is("put", x.put(k, i, cells[i]), 1);
    }

    static int read(StarLess x, String text) {
        fill(x, 0, 1, codes(text));
        return x.hotel(0, 1, 0, text.length());
    }

    static StarLess at(String text) {
        StarLess x = new StarLess();
        if (read(x, text) < 2) is("a text of a test is taken: " + text, 0, 1);
        return x;
    }
}
