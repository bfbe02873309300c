/** Promises 13 to 19: stars that were lost, odds. */
public final class ReadingTest {
    public static void main(String[] args) {
        reading();
        back();
        limits();
        kinds();
        tastes();
        charms();
        odds();
        oddsRefuse();
        Due.end();
    }

    private static void reading() {
        Due.is("no hotel", new StarLess().reading(0, 0, true), -1);
        StarLess x = Due.at(Due.INN);
        Due.is("no guest", x.reading(4, 0, true), -1);
        Due.is("no guest", x.reading(-1, 0, true), -1);
        Due.is("no doing", x.reading(0, 3, true), -1);
        Due.is("no doing", x.reading(0, -1, true), -1);
        for (int k = 0; k < 8; k++) {
            Due.is("reading", x.reading(0, 0, true), k);
            Due.is("how many", x.many(4), k + 1);
        }
        Due.is("full", x.reading(0, 0, true), -4);
        Due.is("unknown ahead of full", x.reading(4, 0, true), -1);
        Due.is("unknown ahead of full", x.reading(0, 3, true), -1);
        Due.is("how many", x.many(4), 8);
    }

    private static void back() {
        StarLess x = new StarLess();
        Due.is("none of none", x.back(0), 0);
        Due.is("one of none", x.back(1), -2);
        Due.is("taken", Due.read(x, Due.INN), 4);
        for (int k = 0; k < 5; k++) x.reading(0, 0, k > 1);
        Due.is("against one another", x.limits(), 0);
        Due.is("too many", x.back(6), -2);
        Due.is("below 0", x.back(-1), -2);
        Due.is("nothing", x.back(0), 5);
        Due.is("the last three", x.back(3), 2);
        Due.is("how many", x.many(4), 2);
        Due.is("the first ones are left", x.limits(), 0b1100000000);
        Due.is("the next number", x.reading(0, 0, false), 2);
        Due.is("all", x.back(3), 0);
        Due.is("all", x.limits(), 0b1111111110);
    }

    private static void limits() {
        Due.is("no hotel", new StarLess().limits(), -3);
        StarLess x = Due.at(Due.INN);
        Due.is("no readings", x.limits(), 0b1111111110);
        x.reading(0, 0, true);
        Due.is("7 lost one", x.limits(), 0b0011111110);
        Due.is("strict stays", x.many(3), 6);
        x.reading(1, 0, false);
        Due.is("3 lost none", x.limits(), 0b0011110000);
        x.reading(1, 1, false);
        Due.is("6 lost none", x.limits(), 0b0010000000);
        x.strict(1);
        Due.is("in place of any", x.limits(), 0b0010000000);
        x.stars(0);
        Due.is("whatever stars there are", x.limits(), 0b0010000000);
        x.reading(3, 0, false);
        Due.is("none", x.limits(), 0);
        x.back(4);
        x.reading(3, 2, true);
        Due.is("above 9", x.limits(), 0b1111111110);
    }

    private static void kinds() {
        Due.is("no hotel", new StarLess().kinds(0), -1);
        // strict 6; guest 0 loves doing 0: 10, 5, 7; not doing 1: 9, 4, 0
        StarLess x = Due.at("z26/52/72;p20;g31");
        Due.is("no guest", x.kinds(2), -1);
        Due.is("no guest", x.kinds(-1), -1);
        Due.is("all", x.kinds(0), 0b111);
        x.reading(0, 0, true);
        Due.is("no critic", x.kinds(0), 0b101);
        Due.is("the other may be any", x.kinds(1), 0b111);
        x.reading(0, 1, false);
        Due.is("a poet", x.kinds(0), 0b100);
        Due.is("kind stays", x.ofGuest(0, 0), 2);
        x.reading(1, 1, true);
        Due.is("13, 6, 8", x.kinds(1), 0b111);
        x.reading(1, 0, true);
        Due.is("8, 4, 0", x.kinds(1), 0b001);
        Due.is("the first as ever", x.kinds(0), 0b100);
        x.reading(0, 0, false);
        Due.is("none", x.kinds(0), 0);
        Due.is("all readings, of another too", x.kinds(1), 0);
    }

    private static void tastes() {
        Due.is("no hotel", new StarLess().tastes(0), -1);
        StarLess x = Due.at(Due.INN);
        Due.is("no guest", x.tastes(4), -1);
        Due.is("no guest", x.tastes(-1), -1);
        Due.is("all", x.tastes(0), 1023);
        x.reading(1, 1, true);
        Due.is("half of 9 and it by 6", x.tastes(1), 0b1111111000);
        Due.is("taste stays", x.ofGuest(1, 1), 4);
        Due.is("another", x.tastes(0), 1023);
        x.reading(1, 0, false);
        Due.is("half of 3 and it below 6", x.tastes(1), 0b0111111000 | 1 << 8);
        x.reading(0, 0, true);
        Due.is("3, 3 and it by 6", x.tastes(0), 1023);
        x.strict(9);
        Due.is("6 and it by 9, but the others are not so", x.tastes(0), 0);
        Due.is("back", x.back(3), 0);
        x.reading(0, 0, true);
        Due.is("6 and it by 9", x.tastes(0), 0b1111111000);
    }

    private static void charms() {
        Due.is("no hotel", new StarLess().charms(0), -1);
        StarLess x = Due.at(Due.INN);
        Due.is("no doing", x.charms(3), -1);
        Due.is("no doing", x.charms(-1), -1);
        Due.is("all", x.charms(0), 1023);
        x.reading(1, 1, true);
        Due.is("half of 7 and it by 6", x.charms(1), 0b1111100000);
        Due.is("charm stays", x.ofDoing(1, 0), 6);
        Due.is("another", x.charms(0), 1023);
        x.reading(0, 1, false);
        Due.is("1 and it below 6", x.charms(1), 0);
        Due.is("not so as it is", x.charms(0), 0);
        x.back(1);
        x.reading(1, 2, true);
        Due.is("4 and it by 12", x.charms(2), 0b1100000000);
        Due.is("and the other by 6 as ever", x.charms(1), 0b1111100000);
    }

    private static void odds() {
        StarLess x = Due.at(Due.INN);
        // as each of the guests it ends with 0, 1, 2, 0
        Due.fill(x, 1, 1, 0, 1, 0, 1, 1, 1, 2, 0, 3, 1, 3, 1, 3, 1);
        share(x, 7, 0, 1, 1);
        share(x, 7, 1, 1, 2);
        share(x, 7, 2, 1, 4);
        share(x, 7, 3, 0, 1);
        share(x, 7, 5, 0, 1);
        share(x, 2, 1, 3, 4);
        share(x, 0, 2, 1, 1);
        Due.is("from cell 4 on", x.odds(1, 1, 4, 3, 2, 0), 1);
        Due.is("from cell 4 on, two pairs", x.odds(1, 1, 4, 2, 2, 0), 3);
        Due.is("from cell 4 on", x.odds(1, 1, 4, 2, 2, 1), 4);
        Due.is("from cell 8 on: nobody ends with none but 3", x.odds(1, 1, 8, 3, 1, 0), 3);
        Due.is("one pair by 3", x.odds(1, 1, 8, 1, 2, 1), 4);
        Due.is("a pair that pleases none enough", x.odds(1, 1, 6, 1, 2, 1), 1);
        StarLess six = Due.at("z11/10;g90;g90;c00;c00;c00;c00");
        Due.fill(six, 1, 1, 0, 0, 1, 0);
        share(six, 2, 1, 2, 3);
        share(six, 1, 1, 5, 6);
    }

    private static void share(StarLess x, int n, int v, long upper, long lower) {
        Due.is("upper", x.odds(1, 1, 0, n, v, 0), upper);
        Due.is("lower", x.odds(1, 1, 0, n, v, 1), lower);
    }

    private static void oddsRefuse() {
        StarLess none = new StarLess();
        Due.is("no hotel", none.odds(0, 0, 0, 0, 0, 0), Due.LOST);
        StarLess x = Due.at(Due.INN);
        Due.fill(x, 1, 1, 0, 0, 3, 2, 4, 0);
        lost(x, new int[] {4, 1, 0, 1, 0, 0}, 0);
        lost(x, new int[] {-1, 1, 0, 1, 0, 0}, 0);
        lost(x, new int[] {1, 3, 0, 1, 0, 0}, 0);
        lost(x, new int[] {1, -1, 0, 1, 0, 0}, 0);
        lost(x, new int[] {1, 1, 0, -1, 0, 0}, 0);
        lost(x, new int[] {1, 1, 0, 21, 0, 0}, 0);
        lost(x, new int[] {1, 0, 0, 1, -1, 0}, 0);
        lost(x, new int[] {1, 0, 0, 1, 6, 0}, 0);
        lost(x, new int[] {1, 1, 0, 1, 0, 2}, 0);
        lost(x, new int[] {1, 1, 0, 1, 0, -1}, 0);
        lost(x, new int[] {1, 2, -1, 1, 0, 0}, 2);
        lost(x, new int[] {2, 2, -1, 1, 0, 0}, 1);
        lost(x, new int[] {1, 1, -1, 1, 0, 0}, 3);
        lost(x, new int[] {1, 1, 7, 0, 0, 0}, 3);
        lost(x, new int[] {1, 1, 0, 4, 0, 0}, 3);
        lost(x, new int[] {1, 1, 0, 3, 0, 0}, 0);
        Due.is("which is told behind all of may()'s", x.odds(1, 2, 0, 1, 0, 2), Due.LOST);
        Due.is("so the fault is come to first", x.fault(), 2);
        Due.fill(x, 1, 1, 0, 0, 0, 0, 0, 0, 0, 0, 0, 2);
        lost(x, new int[] {1, 1, 0, 5, 0, 0}, 0);
        Due.is("none wrong", x.odds(1, 1, 0, 4, 0, 1), 1);
    }

    private static void lost(StarLess x, int[] a, int fault) {
        Due.is("a fault ahead", x.put(3, 0, 0), -11);
        Due.is("odds", x.odds(a[0], a[1], a[2], a[3], a[4], a[5]), Due.LOST);
        Due.is("fault", x.fault(), fault);
    }
}
