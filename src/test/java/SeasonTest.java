/** Promises 8 and 9: seasons, who may be he. */
public final class SeasonTest {
    public static void main(String[] args) {
        aSeason();
        firstWrong();
        empty();
        seasonRefuses();
        may();
        mayRefuses();
        Due.end();
    }

    private static void aSeason() {
        StarLess x = Due.at(Due.INN);
        // strict 6, 2 stars; pairs: guest 3 by doing 2 (21), guest 0 by doing 0 (7), guest 2 by doing 0 (0)
        Due.fill(x, 1, 0, 9, 3, 2, 0, 0, 2, 0);
        Due.is("stars, guest 0", x.season(0, 1, 0, 1, 3, 0), 1);
        Due.is("stars, guest 1", x.season(1, 1, 0, 1, 3, 0), 2);
        Due.is("stars, guest 2", x.season(2, 1, 0, 1, 3, 0), 2);
        Due.is("stars, guest 3", x.season(3, 1, 0, 1, 3, 0), 1);
        Due.is("wrong", x.season(0, 1, 0, 1, 3, 1), -9);
        Due.is("empty", x.season(0, 1, 0, 1, 3, 2), -9);
        Due.is("left", x.season(0, 1, 0, 1, 3, 3), 5);
        Due.is("pleased", x.season(0, 1, 0, 1, 3, 4), 28);
        Due.is("left of none", x.season(0, 1, 0, 1, 0, 3), 12);
        Due.is("pleased by none", x.season(0, 1, 0, 1, 0, 4), 0);
        Due.is("it is as if", x.many(2), 2);
        Due.is("strict", x.strict(8), 6);
        Due.is("stars, stricter", x.season(0, 1, 0, 1, 3, 0), 2);
    }

    private static void firstWrong() {
        StarLess x = Due.at("z51/93/92/91/90;g90;g91");
        Due.fill(x, 1, 2, 0, 0, 0, 0, 0, 0, 0, 0, 1, 3, 1, 2, 1, 3);
        Due.is("just 12", x.season(0, 1, 2, 0, 5, 3), 0);
        Due.is("no wrong", x.season(0, 1, 2, 0, 5, 1), -9);
        Due.is("wrong", x.season(0, 1, 2, 0, 6, 1), 5);
        Due.is("wrong, one behind it", x.season(1, 1, 2, 0, 7, 1), 5);
        for (int what : new int[] {0, 2, 3, 4}) Due.is("wrong", x.season(0, 1, 2, 0, 6, what), -105);
        Due.is("no machine's fault", x.fault(), 0);
        Due.is("may", x.may(1, 2, 0, 6, 1), -105);
        Due.is("may", x.may(1, 2, 0, 5, 1), 1);
        Due.is("more than is left", x.put(1, 7, 1), 1);
        Due.is("left 1, 2 to pay", x.put(1, 9, 1), 1);
        Due.is("wrong", x.season(0, 1, 2, 0, 6, 1), 4);
        Due.is("an unknown pair behind a wrong one", x.put(1, 12, 2), 1);
        Due.is("unknown", x.season(0, 1, 2, 0, 7, 0), -1);
        Due.is("unknown", x.season(0, 1, 2, 0, 7, 1), -1);
        Due.is("unknown", x.may(1, 2, 0, 7, 0), -1);
    }

    private static void empty() {
        StarLess x = Due.at("z21/30;g50;c90");
        Due.fill(x, 1, 1, 1, 0, 0, 0, 1, 0, 0, 0, 0, 0, 1, 0);
        Due.is("empty, guest 0", x.season(0, 1, 1, 0, 6, 2), 3);
        Due.is("empty, guest 1", x.season(1, 1, 1, 0, 6, 2), 2);
        Due.is("none below 0", x.season(0, 1, 1, 0, 6, 0), 0);
        Due.is("empty, short", x.season(0, 1, 1, 0, 3, 2), -9);
        Due.is("no stars", x.stars(0), 2);
        Due.is("none had been", x.season(0, 1, 1, 0, 6, 2), -9);
        Due.is("none", x.season(0, 1, 1, 0, 6, 0), 0);
        Due.is("stars", x.stars(5), 0);
        Due.is("three lost", x.season(0, 1, 1, 0, 6, 0), 2);
    }

    private static void seasonRefuses() {
        StarLess none = new StarLess();
        Due.fill(none, 0, 0, 0, 0);
        Due.is("no hotel", none.season(0, 0, 0, 0, 0, 0), -1);
        StarLess x = Due.at(Due.INN);
        Due.fill(x, 1, 0, 0, 0, 3, 2, 4, 0, 0, 3, -1, 0, 0, -1);
        refused(x, new int[] {4, 9, 9, -9, -9, 9}, -1, 0);
        refused(x, new int[] {-1, 1, 0, 0, 1, 0}, -1, 0);
        refused(x, new int[] {0, 4, 9, -9, -9, 9}, -1, 0);
        refused(x, new int[] {0, -1, 0, 0, 1, 0}, -1, 0);
        refused(x, new int[] {0, 1, 3, 0, 1, 0}, -2, 0);
        refused(x, new int[] {0, 2, -1, 0, 1, 0}, -2, 0);
        refused(x, new int[] {0, 1, 0, 0, -1, 0}, -2, 0);
        refused(x, new int[] {0, 1, 0, 0, 21, 0}, -2, 0);
        refused(x, new int[] {0, 1, 1, -1, 1, 5}, -2, 0);
        refused(x, new int[] {0, 1, 1, -1, 1, -1}, -2, 0);
        refused(x, new int[] {0, 1, 1, -1, 1, 0}, -12, 2);
        refused(x, new int[] {0, 2, 1, -1, 1, 0}, -11, 1);
        refused(x, new int[] {0, 1, 0, -1, 1, 0}, -13, 3);
        refused(x, new int[] {0, 1, 0, 13, 0, 0}, -13, 3);
        refused(x, new int[] {0, 1, 0, 0, 7, 1}, -13, 3);
        refused(x, new int[] {0, 1, 0, Integer.MAX_VALUE, 20, 1}, -13, 3);
        refused(x, new int[] {0, 1, 0, 1, 6, 1}, -13, 3);
        refused(x, new int[] {0, 1, 0, 0, 3, 0}, -1, 0);
        refused(x, new int[] {0, 1, 0, 6, 1, 1}, -1, 0);
        refused(x, new int[] {0, 1, 0, 8, 1, 0}, -1, 0);
        refused(x, new int[] {0, 1, 0, 10, 1, 0}, -1, 0);
        refused(x, new int[] {0, 1, 0, 12, 0, 0}, 2, 0);
        refused(x, new int[] {0, 1, 0, 0, 2, 4}, 28, 0);
        Due.is("cut to bytes", x.put(1, 2, 259), 1);
        refused(x, new int[] {0, 1, 0, 0, 2, 4}, 28, 0);
        Due.fill(x, 2, 2, new int[40]);
        refused(x, new int[] {0, 2, 2, 0, 20, 1}, 4, 0);
        Due.fill(x, 2, 2, 1 << 16, 0);
        refused(x, new int[] {0, 2, 2, 0, 1, 0}, -1, 0);
    }

    private static void refused(StarLess x, int[] a, int want, int fault) {
        Due.is("a fault ahead", x.put(3, 0, 0), -11);
        Due.is("season", x.season(a[0], a[1], a[2], a[3], a[4], a[5]), want);
        Due.is("fault", x.fault(), fault);
    }

    private static void may() {
        StarLess x = Due.at(Due.INN);
        Due.fill(x, 1, 1, 0, 1, 0, 1, 1, 1, 2, 0, 3, 1, 3, 1, 3, 1);
        int[] want = {0b1001, 0b0010, 0b0100, 0, 0, 0};
        for (int v = 0; v < 6; v++) Due.is("may", x.may(1, 1, 0, 7, v), want[v]);
        Due.is("stars", x.stars(5), 2);
        int[] want5 = {0, 0, 0b1000, 0b0001, 0b0010, 0b0100};
        for (int v = 0; v < 6; v++) Due.is("may of 5", x.may(1, 1, 0, 7, v), want5[v]);
        Due.is("by nothing", x.may(1, 1, 14, 0, 5), 0b1111);
        Due.is("from cell 4 on", x.may(1, 1, 4, 3, 4), 0b1010);
        Due.is("from cell 8 on", x.may(1, 1, 8, 3, 2), 0b1000);
    }

    private static void mayRefuses() {
        StarLess none = new StarLess();
        Due.is("unknown ahead", none.may(4, 3, 0, 21, 6), -1);
        Due.is("lane ahead", none.may(0, 3, 0, 0, 0), -2);
        Due.is("n ahead", none.may(0, 0, 0, 21, 0), -2);
        Due.is("v ahead", none.may(0, 0, 0, 0, 6), -2);
        Due.is("no hotel", none.may(0, 0, -1, 0, 0), -3);
        Due.is("no fault", none.fault(), 0);
        StarLess x = Due.at(Due.INN);
        Due.fill(x, 1, 1, 0, 0, 3, 2, 4, 0);
        asked(x, new int[] {-1, 1, 0, 1, 0}, -1, 0);
        asked(x, new int[] {1, -1, 0, 1, 0}, -2, 0);
        asked(x, new int[] {1, 1, 0, -1, 0}, -2, 0);
        asked(x, new int[] {1, 0, 0, 21, 0}, -2, 0);
        asked(x, new int[] {1, 0, -1, 1, -1}, -2, 0);
        asked(x, new int[] {1, 0, -1, 1, 6}, -2, 0);
        asked(x, new int[] {1, 0, -1, 1, 0}, -12, 2);
        asked(x, new int[] {2, 0, -1, 1, 0}, -11, 1);
        asked(x, new int[] {1, 1, -1, 0, 0}, -13, 3);
        asked(x, new int[] {1, 1, 7, 0, 0}, -13, 3);
        asked(x, new int[] {1, 1, 0, 4, 0}, -13, 3);
        asked(x, new int[] {1, 1, 0, 3, 0}, -1, 0);
        asked(x, new int[] {1, 1, 0, 2, 1}, 0b1001, 0);
        asked(x, new int[] {1, 1, 6, 0, 2}, 0b1111, 0);
    }

    private static void asked(StarLess x, int[] a, int want, int fault) {
        Due.is("a fault ahead", x.put(3, 0, 0), -11);
        Due.is("may", x.may(a[0], a[1], a[2], a[3], a[4]), want);
        Due.is("fault", x.fault(), fault);
    }
}
