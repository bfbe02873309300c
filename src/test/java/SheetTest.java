/** Promises 20 to 30: sheets, parts. */
public final class SheetTest {
    private static final int MIN = Integer.MIN_VALUE, MAX = Integer.MAX_VALUE;

    public static void main(String[] args) {
        sheet();
        lose();
        put();
        cell();
        copy();
        tellAndTrace();
        greet();
        as();
        fault();
        many();
        Due.end();
    }

    private static void sheet() {
        StarLess x = new StarLess();
        Due.is("unknown", x.sheet(4, 3, 61), -1);
        Due.is("unknown", x.sheet(-1, 0, 1), -1);
        Due.is("no lane", x.sheet(0, 3, -1), -2);
        Due.is("no lane", x.sheet(0, -1, 1), -2);
        Due.is("too long", x.sheet(0, 0, 61), -2);
        Due.is("fault", x.fault(), 0);
        Due.is("below 0", x.sheet(0, 0, -1), -14);
        Due.is("fault", x.fault(), 4);
        Due.is("below 0", x.sheet(0, 0, MIN), -14);
        Due.is("it has nothing yet", x.lose(0), 0);
        for (int k = 0; k < 4; k++) {
            Due.is("new row", x.sheet(k, k % 3, 60), 1);
            Due.is("fault", x.fault(), 0);
            Due.is("its last cell", x.put(k, 59, 7), 1);
            Due.is("no more", x.put(k, 60, 7), -13);
        }
        Due.is("new row", x.sheet(1, 2, 60), 1);
        Due.is("0 at first", x.cell(1, 59, 2), 0);
        Due.is("put", x.put(1, 0, 8), 1);
        Due.is("new row", x.sheet(1, 2, 60), 1);
        Due.is("0 at first", x.cell(1, 0, 2), 0);
        Due.is("of its lane", x.cell(1, 59, 1), Due.LOST);
        Due.is("the others stay", x.cell(2, 59, 2), 7);
        Due.is("a row of none", x.sheet(1, 0, 0), 1);
        Due.is("no cell", x.put(1, 0, 1), -13);
        Due.is("it is one", x.lose(1), 1);
        Due.is("refused", x.sheet(2, 0, -1), -14);
        Due.is("the row stays", x.cell(2, 59, 2), 7);
    }

    private static void lose() {
        StarLess x = new StarLess();
        Due.is("unknown", x.lose(-1), -1);
        Due.is("unknown", x.lose(4), -1);
        Due.is("nothing", x.lose(3), 0);
        Due.fill(x, 3, 1, 5);
        Due.is("it had", x.lose(3), 1);
        Due.is("nothing", x.lose(3), 0);
        Due.is("nothing to put into", x.put(3, 0, 1), -11);
        Due.is("lose names no fault", x.lose(4), -1);
        Due.is("so it stays", x.fault(), 1);
    }

    private static void put() {
        StarLess x = new StarLess();
        Due.is("unknown", x.put(4, -1, 1), -1);
        Due.is("unknown", x.put(-1, -1, 1), -1);
        Due.is("null", x.put(0, -1, 1), -11);
        Due.is("fault", x.fault(), 1);
        Due.is("new row", x.sheet(0, 2, 3), 1);
        Due.is("index", x.put(0, -1, 1), -13);
        Due.is("fault", x.fault(), 3);
        Due.is("index", x.put(0, 3, 1), -13);
        Due.is("index", x.put(0, MIN, 1), -13);
        Due.is("index", x.put(0, MAX, 1), -13);
        Due.is("put", x.put(0, 2, MIN), 1);
        Due.is("fault", x.fault(), 0);
        Due.is("as put", x.cell(0, 2, 2), MIN);
        Due.is("the others stay", x.cell(0, 1, 2), 0);
    }

    private static void cell() {
        StarLess x = new StarLess();
        int[] told = {0, 127, 128, 255, 256, -129, 32767, 32768, 65535, 65536, -32769, MAX, MIN};
        for (int lane = 0; lane < 3; lane++) {
            Due.fill(x, lane, lane, told);
            for (int i = 0; i < told.length; i++) {
                long want = lane == 0 ? (byte) told[i] : lane == 1 ? (short) told[i] : told[i];
                Due.is("cut to its lane", x.cell(lane, i, lane), want);
            }
        }
        none(x, 4, 0, 0, 0);
        none(x, -1, 0, 0, 0);
        none(x, 0, 99, 3, 0);
        none(x, 3, 0, -1, 0);
        none(x, 0, 99, 1, 2);
        none(x, 1, 0, 2, 2);
        none(x, 3, 99, 1, 1);
        none(x, 0, -1, 0, 3);
        none(x, 0, 13, 0, 3);
        none(x, 0, MAX, 0, 3);
        Due.is("a cell", x.cell(0, 12, 0), 0);
        Due.is("fault", x.fault(), 0);
    }

    private static void none(StarLess x, int k, int i, int lane, int fault) {
        Due.is("a fault ahead", x.sheet(3, 0, -1), -14);
        Due.is("cell", x.cell(k, i, lane), Due.LOST);
        Due.is("fault", x.fault(), fault);
    }

    private static void copy() {
        StarLess x = new StarLess();
        Due.fill(x, 0, 1, 1, 2, 3, 4, 5);
        Due.fill(x, 1, 1, 9, 9, 9);
        Due.fill(x, 2, 2, 8, 8, 8);
        copied(x, new int[] {4, 0, 0, 0, 1}, -1, 0);
        copied(x, new int[] {3, 0, 4, 0, 1}, -1, 0);
        copied(x, new int[] {-1, 0, 0, 0, 1}, -1, 0);
        copied(x, new int[] {0, 0, -1, 0, 1}, -1, 0);
        copied(x, new int[] {3, -1, 2, -1, -1}, -11, 1);
        copied(x, new int[] {0, -1, 3, -1, -1}, -11, 1);
        copied(x, new int[] {0, -1, 2, 0, 1}, -12, 2);
        copied(x, new int[] {0, -1, 1, 0, 1}, -13, 3);
        copied(x, new int[] {0, 0, 1, -1, 1}, -13, 3);
        copied(x, new int[] {0, 0, 1, 0, -1}, -13, 3);
        copied(x, new int[] {0, 0, 1, 0, 4}, -13, 3);
        copied(x, new int[] {0, 3, 1, 0, 3}, -13, 3);
        copied(x, new int[] {0, 6, 1, 0, 0}, -13, 3);
        copied(x, new int[] {0, 0, 1, 4, 0}, -13, 3);
        copied(x, new int[] {0, MAX, 1, 0, MAX}, -13, 3);
        copied(x, new int[] {0, 1, 1, 1, MAX}, -13, 3);
        copied(x, new int[] {0, 0, 1, MIN, MIN}, -13, 3);
        row(x, 0, 1, 1, 2, 3, 4, 5);
        row(x, 1, 1, 9, 9, 9);
        copied(x, new int[] {0, 5, 1, 3, 0}, 0, 0);
        copied(x, new int[] {0, 3, 1, 1, 2}, 2, 0);
        row(x, 1, 1, 9, 4, 5);
        copied(x, new int[] {0, 0, 0, 1, 4}, 4, 0);
        row(x, 0, 1, 1, 1, 2, 3, 4);
        copied(x, new int[] {0, 2, 0, 0, 3}, 3, 0);
        row(x, 0, 1, 2, 3, 4, 3, 4);
    }

    private static void copied(StarLess x, int[] a, int want, int fault) {
        Due.is("a fault ahead", x.sheet(3, 0, -1), -14);
        Due.is("copy", x.copy(a[0], a[1], a[2], a[3], a[4]), want);
        Due.is("fault", x.fault(), fault);
    }

    private static void row(StarLess x, int k, int lane, int... want) {
        for (int i = 0; i < want.length; i++) Due.is("cell " + i, x.cell(k, i, lane), want[i]);
    }

    private static void tellAndTrace() {
        Due.is("no hotel", new StarLess().tell(0), -1);
        StarLess x = Due.at(Due.INN);
        Due.is("no guest", x.tell(4), -1);
        Due.is("no guest", x.tell(-1), -1);
        Due.is("no trace", x.trace(), 0);
        Due.is("a guest", x.tell(3), 9);
        int trace = 1;
        Due.is("1", x.trace(), trace);
        Due.is("a critic", x.tell(1), 104);
        trace = traced(trace, 2, 1);
        Due.is("2, 1", x.trace(), trace);
        Due.is("a poet", x.tell(2), 104);
        trace = traced(trace, 3, 2, 1, 1);
        Due.is("3, 2, 1, 1", x.trace(), trace);
        for (int k = 0; k < 9; k++) {
            Due.is("a poet", x.tell(2), 104);
            trace = traced(trace, 3, 2, 1, 1);
            Due.is("it wraps", x.trace(), trace);
        }
        Due.is("tell is no call that names a fault", x.fault(), 0);
    }

    private static int traced(int trace, int... bodies) {
        for (int body : bodies) trace = 31 * trace + body;
        return trace;
    }

    private static void greet() {
        Due.is("no hotel", new StarLess().greet(0), -1);
        StarLess x = Due.at(Due.INN);
        Due.is("no guest", x.greet(4), -1);
        Due.is("no guest", x.greet(-1), -1);
        Due.is("no trace", x.trace(), 0);
        int[] want = {0, 1, 50, 3};
        int trace = 0;
        for (int g = 0; g < 4; g++) {
            Due.is("greet", x.greet(g), want[g]);
            trace = traced(trace, g == 2 ? 5 : 4);
            Due.is("trace", x.trace(), trace);
        }
    }

    private static void as() {
        Due.is("no hotel", new StarLess().as(0, 3), -1);
        StarLess x = Due.at(Due.INN);
        int[] kinds = {0, 1, 2, 0};
        for (int g = 0; g < 4; g++) {
            for (int kind = 0; kind < 3; kind++) {
                boolean is = kind <= kinds[g];
                Due.is("as", x.as(g, kind), is ? 1 : -12);
                Due.is("fault", x.fault(), is ? 0 : 2);
            }
            Due.is("a fault ahead", x.put(3, 0, 0), -11);
            Due.is("no kind", x.as(g, 3), -2);
            Due.is("fault", x.fault(), 0);
            Due.is("no kind", x.as(g, -1), -2);
        }
        Due.is("a fault ahead", x.put(3, 0, 0), -11);
        Due.is("no guest", x.as(4, 3), -1);
        Due.is("fault", x.fault(), 0);
        Due.is("no guest", x.as(-1, 0), -1);
        Due.is("no trace", x.trace(), 0);
    }

    private static void fault() {
        StarLess x = Due.at(Due.INN);
        Due.is("none", x.fault(), 0);
        Due.is("index", x.put(0, 60, 0), -13);
        Due.is("told", x.fault(), 3);
        Due.is("told again", x.fault(), 3);
        x.lose(4);
        x.lose(3);
        x.ofGuest(9, 9);
        x.ofDoing(0, 0);
        x.strict(0);
        x.strict(6);
        x.stars(9);
        x.stars(2);
        x.pleased(0, 0);
        x.ask(0);
        x.dull(0);
        x.fewest(-2);
        x.reading(9, 0, true);
        x.reading(0, 0, true);
        x.back(1);
        x.limits();
        x.kinds(9);
        x.tastes(0);
        x.charms(0);
        x.tell(0);
        x.greet(9);
        x.trace();
        x.many(9);
        Due.is("these name none", x.fault(), 3);
        Due.is("a text that ends too soon", x.hotel(0, 1, 0, 1), -101);
        Due.is("none", x.fault(), 0);
    }

    private static void many() {
        StarLess x = new StarLess();
        Due.is("outside", x.many(5), -2);
        Due.is("outside", x.many(-1), -2);
        Due.is("taken", Due.read(x, Due.INN), 4);
        x.reading(0, 0, true);
        int[] want = {4, 3, 2, 6, 1};
        for (int what = 0; what < 5; what++) Due.is("many", x.many(what), want[what]);
        Due.is("outside", x.many(5), -2);
        Due.is("outside", x.many(Integer.MIN_VALUE), -2);
        Due.is("stars", x.stars(0), 2);
        Due.is("strict", x.strict(9), 6);
        Due.is("stars", x.many(2), 0);
        Due.is("strict", x.many(3), 9);
    }
}
