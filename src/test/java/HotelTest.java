/** Promises 1 to 7: a new object, the hotel. */
public final class HotelTest {
    public static void main(String[] args) {
        newObject();
        textIsTaken();
        firstFaults();
        hotelRefuses();
        aTextMakesAllAnew();
        ofGuest();
        ofDoing();
        strict();
        stars();
        pleased();
        Due.end();
    }

    private static void newObject() {
        StarLess x = new StarLess();
        for (int what = 0; what < 5; what++) Due.is("new many", x.many(what), 0);
        for (int k = 0; k < 4; k++) {
            Due.is("new put", x.put(k, 0, 1), -11);
            Due.is("new lose", x.lose(k), 0);
        }
        Due.is("new trace", x.trace(), 0);
        Due.is("new ofGuest", x.ofGuest(0, 0), -1);
        Due.is("new ofDoing", x.ofDoing(0, 0), -1);
        Due.is("new pleased", x.pleased(0, 0), -1);
        Due.is("new fault", new StarLess().fault(), 0);
    }

    private static void textIsTaken() {
        StarLess x = new StarLess();
        Due.is("least text", Due.read(x, "z01/00;g00;g00"), 2);
        Due.is("doings", x.many(1), 1);
        Due.is("stars", x.many(2), 0);
        Due.is("strict", x.many(3), 1);
        Due.is("longest text", Due.read(x, "z59/93/80/71/62;g90;c81;p72;g63;c50;p41"), 6);
        Due.is("doings", x.many(1), 4);
        Due.is("stars", x.many(2), 5);
        Due.is("strict", x.many(3), 9);
        int[] codes = Due.codes("..z34/12;g50;p60..");
        for (int lane = 0; lane < 3; lane++) {
            StarLess y = new StarLess();
            Due.fill(y, 3, lane, codes);
            Due.is("in the midst of a row", y.hotel(3, lane, 2, codes.length - 4), 2);
            Due.is("its stars", y.many(2), 3);
            Due.is("its second taste", y.ofGuest(1, 1), 6);
        }
        StarLess z = new StarLess();
        int[] more = Due.codes("z34/12;g50;p60");
        more[0] += 256;
        Due.fill(z, 0, 0, more);
        Due.is("cut to bytes", z.hotel(0, 0, 0, more.length), 2);
        Due.fill(z, 0, 1, more);
        Due.is("not cut by shorts", z.hotel(0, 1, 0, more.length), -100);
    }

    private static void firstFaults() {
        String full = "z59/93/93/93/93;p93;p93;p93;p93;p93;p93";
        fault("", 0);
        fault("y", 0);
        fault("Z26", 0);
        fault("z", 1);
        fault("z6", 1);
        fault("z/", 1);
        fault("z2", 2);
        fault("z20", 2);
        fault("z2:", 2);
        fault("z26", 3);
        fault("z26;", 3);
        fault("z26/", 4);
        fault("z26/:", 4);
        fault("z26/9", 5);
        fault("z26/94", 5);
        fault("z26/9/", 5);
        fault("z26/9;g90;g90", 5);
        fault("z26/;g90;g90", 4);
        fault("z26/90/9;g90;g90", 8);
        fault("z26/93", 6);
        fault("z26/93g", 6);
        fault("z26/93;", 7);
        fault("z26/93;z", 7);
        fault("z26/93;g", 8);
        fault("z26/93;g;", 8);
        fault("z26/93;g9", 9);
        fault("z26/93;g91", 9);
        fault("z26/93/00;g92", 12);
        fault("z26/93;g90", 10);
        fault("z26/93;g90/", 10);
        fault("z26/93;g90;", 11);
        fault("z26/93;g90;c90;", 15);
        fault("z26/93;g90;c90/", 14);
        fault("z26/93;g90;c90z", 14);
        fault("z26/93/93/93/93/93;g90;g90", 15);
        fault(full + ";", 39);
        fault(full + ";g90", 39);
        fault(full + "z", 39);
        for (int n = 0; n < full.length(); n++) {
            if (n != 23 && n != 27 && n != 31 && n != 35) fault(full.substring(0, n), n);
        }
    }

    private static void fault(String text, int place) {
        StarLess x = Due.at(Due.INN);
        Due.is("reading", x.reading(0, 0, true), 0);
        Due.is("hotel " + text, Due.read(x, text), -100 - place);
        Due.is("no machine's fault", x.fault(), 0);
        Due.is("the hotel stays", x.many(0), 4);
        Due.is("the doings stay", x.many(1), 3);
        Due.is("the stars stay", x.many(2), 2);
        Due.is("the strict stays", x.many(3), 6);
        Due.is("the readings stay", x.many(4), 1);
        Due.is("the tastes stay", x.ofGuest(3, 1), 9);
    }

    private static void hotelRefuses() {
        StarLess x = new StarLess();
        Due.fill(x, 1, 1, Due.codes(Due.INN));
        refused(x, 4, 3, 0, -1, -1, 0);
        refused(x, -1, 1, 0, 28, -1, 0);
        refused(x, 1, 3, 0, -1, -2, 0);
        refused(x, 2, -1, 0, 28, -2, 0);
        refused(x, 2, 0, -1, -1, -11, 1);
        refused(x, 1, 0, -1, -1, -12, 2);
        refused(x, 1, 2, 0, 28, -12, 2);
        refused(x, 1, 1, -1, -1, -14, 4);
        refused(x, 1, 1, 0, Integer.MIN_VALUE, -14, 4);
        refused(x, 1, 1, -1, 0, -13, 3);
        refused(x, 1, 1, 29, 0, -13, 3);
        refused(x, 1, 1, 0, 29, -13, 3);
        refused(x, 1, 1, 1, 28, -13, 3);
        refused(x, 1, 1, 28, Integer.MAX_VALUE, -13, 3);
        refused(x, 1, 1, Integer.MAX_VALUE, Integer.MAX_VALUE, -13, 3);
        refused(x, 1, 1, Integer.MIN_VALUE, Integer.MAX_VALUE, -13, 3);
        refused(x, 1, 1, 28, 0, -100, 0);
        Due.is("taken at last", x.hotel(1, 1, 0, 28), 4);
        Due.is("fault", x.fault(), 0);
    }

    private static void refused(StarLess x, int sheet, int lane, int i, int n, int want, int fault) {
        Due.is("a fault ahead", x.put(0, 0, 0), -11);
        Due.is("hotel", x.hotel(sheet, lane, i, n), want);
        Due.is("fault", x.fault(), fault);
        Due.is("no hotel", x.many(0), 0);
    }

    private static void aTextMakesAllAnew() {
        StarLess x = Due.at(Due.INN);
        Due.is("tell", x.tell(0), 1);
        Due.is("reading", x.reading(0, 0, false), 0);
        Due.is("limits", x.limits(), 0b1100000000);
        Due.is("strict", x.strict(9), 6);
        Due.is("anew", Due.read(x, "z53/12;c50;c61"), -113);
        Due.is("readings stay", x.many(4), 1);
        Due.is("anew", Due.read(x, "z53/12/70;c50;c61"), 2);
        Due.is("guests", x.many(0), 2);
        Due.is("doings", x.many(1), 2);
        Due.is("stars", x.many(2), 5);
        Due.is("strict", x.many(3), 3);
        Due.is("no readings", x.many(4), 0);
        Due.is("limits", x.limits(), 0b1111111110);
        Due.is("guest 2 is gone", x.ofGuest(2, 0), -1);
        Due.is("doing 2 is gone", x.ofDoing(2, 0), -1);
        Due.is("trace is the object's", x.trace(), 1);
        Due.is("sheets stay", x.cell(0, 0, 1), 'z');
    }

    private static void ofGuest() {
        StarLess x = Due.at(Due.INN);
        int[][] want = {{0, 1, 0}, {1, 4, 1}, {2, 2, 1}, {0, 9, 2}};
        for (int g = 0; g < 4; g++) {
            for (int what = 0; what < 3; what++) Due.is("ofGuest", x.ofGuest(g, what), want[g][what]);
            Due.is("ofGuest 3", x.ofGuest(g, 3), -2);
            Due.is("ofGuest -1", x.ofGuest(g, -1), -2);
        }
        Due.is("no guest", x.ofGuest(4, 3), -1);
        Due.is("no guest", x.ofGuest(-1, 0), -1);
    }

    private static void ofDoing() {
        StarLess x = Due.at(Due.INN);
        int[][] want = {{3, 3, 9}, {6, 0, 15}, {9, 1, 11}};
        for (int d = 0; d < 3; d++) {
            for (int what = 0; what < 3; what++) Due.is("ofDoing", x.ofDoing(d, what), want[d][what]);
            Due.is("ofDoing 3", x.ofDoing(d, 3), -2);
            Due.is("ofDoing -1", x.ofDoing(d, -1), -2);
        }
        Due.is("no doing", x.ofDoing(3, 3), -1);
        Due.is("no doing", x.ofDoing(-1, 0), -1);
        Due.is("strict", x.strict(7), 6);
        Due.is("7 is enough", x.ofDoing(1, 2), 0b1101);
        Due.is("strict", x.strict(8), 7);
        Due.is("7 is not enough", x.ofDoing(1, 2), 0b1000);
    }

    private static void strict() {
        StarLess x = new StarLess();
        Due.is("no hotel", x.strict(5), -3);
        Due.is("no hotel, outside", x.strict(0), -2);
        Due.is("taken", Due.read(x, Due.INN), 4);
        for (int v : new int[] {0, 10, -1, Integer.MIN_VALUE, Integer.MAX_VALUE}) {
            Due.is("outside", x.strict(v), -2);
            Due.is("it stays", x.many(3), 6);
        }
        Due.is("6 to 1", x.strict(1), 6);
        Due.is("1 to 9", x.strict(9), 1);
        Due.is("9 to 9", x.strict(9), 9);
        Due.is("it is 9", x.many(3), 9);
    }

    private static void stars() {
        StarLess x = new StarLess();
        Due.is("no hotel", x.stars(5), -3);
        Due.is("no hotel, outside", x.stars(6), -2);
        Due.is("taken", Due.read(x, Due.INN), 4);
        for (int v : new int[] {-1, 6, Integer.MIN_VALUE, Integer.MAX_VALUE}) {
            Due.is("outside", x.stars(v), -2);
            Due.is("they stay", x.many(2), 2);
        }
        Due.is("2 to 0", x.stars(0), 2);
        Due.is("0 to 5", x.stars(5), 0);
        Due.is("they are 5", x.many(2), 5);
    }

    private static void pleased() {
        StarLess x = Due.at(Due.INN);
        int[][] want = {{7, 7, 10}, {3, 6, 6}, {0, 7, 0}, {12, 15, 21}};
        for (int g = 0; g < 4; g++) {
            for (int d = 0; d < 3; d++) Due.is("pleased", x.pleased(g, d), want[g][d]);
            Due.is("no doing", x.pleased(g, 3), -1);
            Due.is("no doing", x.pleased(g, -1), -1);
        }
        Due.is("no guest", x.pleased(4, 0), -1);
        Due.is("no guest", x.pleased(-1, 0), -1);
        StarLess y = Due.at("z01/00/10;p00;c00");
        Due.is("a poet's half is cut", y.pleased(0, 0), 3);
        Due.is("a poet's nothing", y.pleased(0, 1), 0);
        Due.is("a critic's half is cut", y.pleased(1, 1), 0);
    }
}
