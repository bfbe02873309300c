/** Long runs of calls, each answer against that of the document written a second time (Model). */
public final class ModelTest {
    private static final int CALLS = 512;
    private static final int[] ODD = {
        -1, -2, 4, 5, 6, 7, 8, 9, 10, 12, 20, 21, 39, 40, 41, 59, 60, 61, 63, 64, 127, 128, 255, 256, 32768, 65536,
        Integer.MAX_VALUE, Integer.MAX_VALUE - 1, Integer.MIN_VALUE, Integer.MIN_VALUE + 1, 1 << 30, -(1 << 30)};
    private static final String SIGNS = "z/;gcp0123456789";
    private static long seed = 511;

    private StarLess x = new StarLess();
    private Model model = new Model();
    private int calls = 0;
    private final int run;

    private ModelTest(int run) {
        this.run = run;
    }

    public static void main(String[] args) {
        for (int run = 0; run < 600; run++) new ModelTest(run).wander();
        Due.end();
    }

    private void wander() {
        if (run % 8 != 0) text(0, next(3), goodText());
        while (calls < CALLS) {
            int how = next(40);
            if (how == 0 && calls < CALLS - 50) text(next(4), next(3), next(3) == 0 ? spoiled(goodText()) : goodText());
            else if (how < 4 && calls < CALLS - 46) pairs();
            else any(next(29));
        }
    }

    private void is(String call, long got, long want) {
        calls++;
        Due.is("run " + run + ", call " + calls + ": " + call, got, want);
    }

    /** A text into a sheet, not always at its begin, and a hotel of it. */
    private void text(int k, int lane, String text) {
        int from = next(3);
        int length = Math.min(60, from + text.length() + next(3));
        row(k, lane, length);
        for (int i = 0; i < text.length() && from + i < length; i++) put(k, from + i, text.charAt(i));
        int n = text.length();
        is("hotel", x.hotel(k, lane, from, n), model.hotel(k, lane, from, n));
        after();
    }

    /** Pairs into a sheet, mostly such as there are, and calls that take them. */
    private void pairs() {
        int k = next(4);
        int lane = next(3);
        int from = next(2);
        int n = next(3) == 0 ? next(21) : next(8);
        row(k, lane, Math.min(60, from + 2 * n));
        int guests = Math.max(1, model.many(0));
        int doings = Math.max(1, model.many(1));
        for (int p = 0; p < n; p++) {
            put(k, from + 2 * p, next(60) == 0 ? small() : next(guests));
            put(k, from + 2 * p + 1, next(60) == 0 ? small() : next(doings));
        }
        for (int what = 0; what < 5; what++) {
            int g = next(guests);
            is("season " + what, x.season(g, k, lane, from, n, what), model.season(g, k, lane, from, n, what));
        }
        for (int v = 0; v < 6; v += 1 + next(2)) {
            is("may", x.may(k, lane, from, n, v), model.may(k, lane, from, n, v));
            for (int which = 0; which < 2; which++) {
                is("odds", x.odds(k, lane, from, n, v, which), model.odds(k, lane, from, n, v, which));
            }
        }
        after();
    }

    private void row(int k, int lane, int n) {
        is("sheet", x.sheet(k, lane, n), model.sheet(k, lane, n));
    }

    private void put(int k, int i, int v) {
        is("put", x.put(k, i, v), model.put(k, i, v));
    }

    private void after() {
        is("fault", x.fault(), model.fault());
        int what = next(5);
        is("many", x.many(what), model.many(what));
    }

    private static String goodText() {
        StringBuilder text = new StringBuilder("z").append(next(6)).append(1 + next(9));
        int doings = 1 + next(4);
        for (int d = 0; d < doings; d++) text.append('/').append(next(10)).append(next(4));
        int guests = 2 + next(5);
        for (int g = 0; g < guests; g++) text.append(';').append("gcp".charAt(next(3))).append(next(10)).append(next(doings));
        return text.toString();
    }

    private static String spoiled(String text) {
        int place = next(text.length());
        char sign = SIGNS.charAt(next(SIGNS.length()));
        switch (next(4)) {
            case 0: return text.substring(0, place);
            case 1: return text.substring(0, place) + sign + text.substring(place + 1);
            case 2: return text.substring(0, place) + text.substring(place + 1);
            default: return text + sign;
        }
    }

    private static int next(int below) {
        seed = seed * 6364136223846793005L + 1442695040888963407L;
        return (int) Math.floorMod(seed >>> 33, (long) below);
    }

    private static int small() {
        return next(10) == 0 ? ODD[next(ODD.length)] : next(8) - 1;
    }

    /** A sheet's number: mostly there is one. */
    private static int k() {
        return next(12) == 0 ? small() : next(4);
    }

    private static int lane() {
        return next(12) == 0 ? small() : next(3);
    }

    private static int many() {
        return next(3) == 0 ? ODD[next(ODD.length)] : next(12) - 1;
    }

    private void any(int which) {
        int a = k();
        int b = small();
        int c = small();
        int lane = lane();
        int i = many();
        int n = many();
        boolean lost = next(2) == 0;
        switch (which) {
            case 0: is("hotel", x.hotel(a, lane, i, n), model.hotel(a, lane, i, n)); break;
            case 1: is("ofGuest", x.ofGuest(b, c), model.ofGuest(b, c)); break;
            case 2: is("ofDoing", x.ofDoing(b, c), model.ofDoing(b, c)); break;
            case 3: is("strict", x.strict(i), model.strict(i)); break;
            case 4: is("stars", x.stars(b), model.stars(b)); break;
            case 5: is("pleased", x.pleased(b, c), model.pleased(b, c)); break;
            case 6: is("season", x.season(b, a, lane, i, n, c), model.season(b, a, lane, i, n, c)); break;
            case 7: is("may", x.may(a, lane, i, n, b), model.may(a, lane, i, n, b)); break;
            case 8: is("ask", x.ask(c = next(4) == 0 ? i : next(64)), model.ask(c)); break;
            case 9: is("dull", x.dull(b), model.dull(b)); break;
            case 10: is("fewest", x.fewest(b), model.fewest(b)); break;
            case 11: is("reading", x.reading(b, c, lost), model.reading(b, c, lost)); break;
            case 12: is("back", x.back(b), model.back(b)); break;
            case 13: is("limits", x.limits(), model.limits()); break;
            case 14: is("kinds", x.kinds(b), model.kinds(b)); break;
            case 15: is("tastes", x.tastes(b), model.tastes(b)); break;
            case 16: is("charms", x.charms(b), model.charms(b)); break;
            case 17: is("odds", x.odds(a, lane, i, n, b, lost ? 0 : c), model.odds(a, lane, i, n, b, lost ? 0 : c)); break;
            case 18: is("sheet", x.sheet(a, lane, i), model.sheet(a, lane, i)); break;
            case 19: is("lose", x.lose(b), model.lose(b)); break;
            case 20: is("put", x.put(a, i, n), model.put(a, i, n)); break;
            case 21: is("cell", x.cell(a, i, lane), model.cell(a, i, lane)); break;
            case 22: is("copy", x.copy(a, i, b, c, n), model.copy(a, i, b, c, n)); break;
            case 23: is("tell", x.tell(b), model.tell(b)); break;
            case 24: is("greet", x.greet(b), model.greet(b)); break;
            case 25: is("as", x.as(b, c), model.as(b, c)); break;
            case 26: is("trace", x.trace(), model.trace()); break;
            case 27: is("fault", x.fault(), model.fault()); break;
            default: is("many", x.many(c), model.many(c));
        }
    }
}
