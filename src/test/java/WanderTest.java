/** Long runs of calls of all kinds, with arguments of all kinds: none throws, and what is refused changes nothing. */
public final class WanderTest {
    private static final int[] ODD = {
        -1, 0, 1, 2, 3, 4, 5, 6, 7, 8, 9, 10, 20, 21, 40, 59, 60, 61, 63, 64, 122, 255, 65536,
        Integer.MAX_VALUE, Integer.MAX_VALUE - 1, Integer.MIN_VALUE, Integer.MIN_VALUE + 1, 1 << 30, -(1 << 30)};
    private static final int CELLS = 10;
    private static final int SEEN = 5 + 6 * 10 + 4 * 4 + 1 + 4 * 3 * CELLS;
    private static long seed = 20261118;

    public static void main(String[] args) {
        for (int run = 0; run < 400; run++) wander(run);
        Due.end();
    }

    private static void wander(int run) {
        StarLess x = new StarLess();
        if (run % 4 != 0) Due.read(x, randomText());
        for (int call = 0; call < 300; call++) {
            long[] ahead = all(x);
            int traced = x.trace();
            long answer = call(x, next(29));
            if (!refused(answer)) continue;
            Due.is("run " + run + ", call " + call + ": what is refused leaves no trace", x.trace(), traced);
            long[] behind = all(x);
            for (int k = 0; k < ahead.length; k++) {
                if (ahead[k] != behind[k]) Due.is("run " + run + ", call " + call + ": row " + k, behind[k], ahead[k]);
            }
        }
        Due.is("a run's end", x.many(5), -2);
    }

    private static boolean refused(long answer) {
        boolean wrongText = answer <= -100 && answer >= -139;
        return answer >= -4 && answer < 0 || answer <= -11 && answer >= -14 || answer == Due.LOST || wrongText;
    }

    private static String randomText() {
        StringBuilder text = new StringBuilder("z").append(next(6)).append(1 + next(9));
        int doings = 1 + next(4);
        for (int d = 0; d < doings; d++) text.append('/').append(next(10)).append(next(4));
        int guests = 2 + next(5);
        for (int g = 0; g < guests; g++) text.append(';').append("gcp".charAt(next(3))).append(next(10)).append(next(doings));
        return text.toString();
    }

    private static int next(int below) {
        seed = seed * 6364136223846793005L + 1442695040888963407L;
        return (int) Math.floorMod(seed >>> 33, (long) below);
    }

    private static int any() {
        int how = next(8);
        if (how == 0) return ODD[next(ODD.length)];
        if (how == 1) return (int) (seed >>> 31);
        return next(6);
    }

    /** Everything that may be asked without a change, but fault(). */
    private static long[] all(StarLess x) {
        long[] row = new long[SEEN];
        int at = 0;
        for (int what = 0; what < 5; what++) row[at++] = x.many(what);
        for (int g = 0; g < 6; g++) {
            for (int what = 0; what < 3; what++) row[at++] = x.ofGuest(g, what);
            row[at++] = x.kinds(g);
            row[at++] = x.tastes(g);
            row[at++] = x.dull(g);
            for (int d = 0; d < 4; d++) row[at++] = x.pleased(g, d);
        }
        for (int d = 0; d < 4; d++) {
            for (int what = 0; what < 3; what++) row[at++] = x.ofDoing(d, what);
            row[at++] = x.charms(d);
        }
        row[at++] = x.limits();
        for (int k = 0; k < 4; k++) {
            for (int lane = 0; lane < 3; lane++) {
                for (int i = 0; i < CELLS; i++) row[at++] = x.cell(k, i, lane);
            }
        }
        return row;
    }

    private static long call(StarLess x, int which) {
        switch (which) {
            case 0: return x.hotel(any(), any(), any(), any());
            case 1: return x.ofGuest(any(), any());
            case 2: return x.ofDoing(any(), any());
            case 3: return x.strict(any());
            case 4: return x.stars(any());
            case 5: return x.pleased(any(), any());
            case 6: return x.season(any(), any(), any(), any(), any(), any());
            case 7: return x.may(any(), any(), any(), any(), any());
            case 8: return x.ask(any());
            case 9: return x.dull(any());
            case 10: return x.fewest(any());
            case 11: return x.reading(any(), any(), next(2) == 0);
            case 12: return x.back(any());
            case 13: return x.limits();
            case 14: return x.kinds(any());
            case 15: return x.tastes(any());
            case 16: return x.charms(any());
            case 17: return x.odds(any(), any(), any(), any(), any(), any());
            case 18: return x.sheet(any(), any(), any());
            case 19: return x.lose(any());
            case 20: return x.put(any(), any(), any());
            case 21: return x.cell(any(), any(), any());
            case 22: return x.copy(any(), any(), any(), any(), any());
            case 23: return x.tell(any());
            case 24: return x.greet(any());
            case 25: return x.as(any(), any());
            case 26: return x.trace();
            case 27: return x.fault();
            default: return x.many(any());
        }
    }
}
