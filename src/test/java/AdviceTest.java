/** Promises 10 to 12: what to do. */
public final class AdviceTest {
    public static void main(String[] args) {
        ask();
        dull();
        fewest();
        fewestIsTheBestOfAllRows();
        fewestOfOneHotelBehindAnother();
        Due.end();
    }

    private static void ask() {
        StarLess none = new StarLess();
        Due.is("no hotel", none.ask(-1), -3);
        StarLess x = Due.at(Due.INN);
        Due.is("no set", x.ask(16), -2);
        Due.is("no set", x.ask(-1), -2);
        Due.is("no set", x.ask(Integer.MAX_VALUE), -2);
        Due.is("nobody", x.ask(0), -9);
        Due.is("all: doing 1 costs nothing", x.ask(15), 1);
        Due.is("the last", x.ask(8), 31);
        Due.is("strict", x.strict(8), 6);
        Due.is("0 by 2 alone", x.ask(1), 2);
        Due.is("3 by 1 costs less than 0 by 2", x.ask(9), 31);
        Due.is("nothing shows", x.ask(6), -9);
        Due.is("no stars", x.stars(0), 2);
        Due.is("as told, whatever stars there are", x.ask(1), 2);
        StarLess y = Due.at("z15/02/91/91/53;g00;g93;g82");
        Due.is("of one cost the first doing, then the first guest", y.ask(7), 1);
        Due.is("1 ahead of 2", y.ask(6), 11);
        Due.is("2 alone", y.ask(4), 21);
        Due.is("the first doing, if it costs as little as another", Due.at("z15/91/91/92;g00;g91").ask(2), 10);
        StarLess z = Due.at("z14/11/90/91;c00;g31;p22");
        Due.is("the least cost", z.ask(7), 1);
        Due.is("by doing, then guest", z.ask(6), 11);
        Due.is("dear as it is", z.ask(4), 22);
    }

    private static void dull() {
        Due.is("no hotel", new StarLess().dull(0), -1);
        StarLess x = Due.at(Due.INN);
        Due.is("no guest", x.dull(4), -1);
        Due.is("no guest", x.dull(-1), -1);
        Due.is("all are charming", x.dull(0), -9);
        Due.is("3 of 3, 6, 6", x.dull(1), 0);
        Due.is("the least of two", x.dull(2), 0);
        Due.is("strict", x.strict(8), 6);
        Due.is("of 7, 7, 10", x.dull(0), 0);
        Due.is("of 3, 6, 6", x.dull(1), 1);
        Due.is("of 0, 7, 0", x.dull(2), 1);
        Due.is("strict", x.strict(7), 8);
        Due.is("just as strict is no dull one", x.dull(2), 0);
        Due.is("nor here", x.dull(0), -9);
    }

    private static void fewest() {
        StarLess none = new StarLess();
        Due.is("unknown ahead", none.fewest(-2), -1);
        Due.is("no hotel", none.fewest(-1), -3);
        Due.is("no hotel", none.fewest(9), -3);
        StarLess x = Due.at(Due.INN);
        Due.is("unknown", x.fewest(-2), -1);
        Due.is("unknown", x.fewest(Integer.MIN_VALUE), -1);
        Due.is("no such guest", x.fewest(4), -9);
        Due.is("no such guest", x.fewest(Integer.MAX_VALUE), -9);
        row(x, 2, 2, 0, 0, 2);
        Due.is("strict", x.strict(9), 6);
        row(x, 1, 0, 1, 1, 2);
        StarLess dear = Due.at("z13/13;g00;g00;c00;c00");
        row(dear, 2, 0, 0, 0, 0);
        StarLess dearer = Due.at("z13/13;g00;g00;c00;c00;p00");
        row(dearer, -9, -9, -9, -9, -9, -9);
        StarLess dearest = Due.at("z13/13/93;g00;g00;c00;c00;p00;p01");
        row(dearest, -9, -9, -9, -9, -9, -9, -9);
        // 12 to spend: two at most may have doing 0 (3), and it must be the ones who are not won by it
        StarLess tight = Due.at("z14/03/92;c00;c00;c00;c00;c00");
        row(tight, 3, 0, 0, 1, 1, 1);
        // of alike rows the first
        StarLess alike = Due.at("z19/11/11/11;g00;g01");
        row(alike, 0, 0, 1);
        StarLess all = Due.at("z19/11/11/11;p00;p02");
        row(all, 0, 0, 2);
    }

    private static void fewestOfOneHotelBehindAnother() {
        StarLess x = Due.at("z19/93/10;g90;g90;g90;g90;g91;g91");
        row(x, 6, 0, 0, 0, 0, 1, 1);
        Due.is("four who pay all 12", Due.read(x, "z11/93/02;g90;g90;g90;g90"), 4);
        row(x, 4, 0, 0, 0, 0);
        Due.is("five who pay nothing", Due.read(x, "z11/90/01;g90;g90;g90;g90;g90"), 5);
        row(x, 5, 0, 0, 0, 0, 0);
        Due.is("two who pay nothing", Due.read(x, "z12/10;g00;c00"), 2);
        row(x, 2, 0, 0);
    }

    private static void row(StarLess x, int... want) {
        for (int g = -1; g < want.length - 1; g++) Due.is("fewest " + g, x.fewest(g), want[g + 1]);
    }

    private static void fewestIsTheBestOfAllRows() {
        int seed = 7;
        for (int round = 0; round < 60; round++) {
            StringBuilder text = new StringBuilder("z1");
            int doings = 1 + (round & 3);
            int guests = 2 + round % 5;
            text.append((char) ('1' + round % 9));
            for (int d = 0; d < doings; d++) {
                seed = seed * 1103515245 + 12345;
                text.append('/').append((char) ('0' + (seed >>> 16) % 10)).append((char) ('0' + (seed >>> 8 & 3)));
            }
            for (int g = 0; g < guests; g++) {
                seed = seed * 1103515245 + 12345;
                text.append(';').append("gcp".charAt((seed >>> 24) % 3)).append((char) ('0' + (seed >>> 16) % 10));
                text.append((char) ('0' + (seed >>> 8) % doings));
            }
            StarLess x = Due.at(text.toString());
            row(x, bestRow(x, guests, doings));
        }
    }

    private static int[] bestRow(StarLess x, int guests, int doings) {
        int[] best = new int[guests + 1];
        java.util.Arrays.fill(best, -9);
        int most = -1;
        int all = 1;
        for (int g = 0; g < guests; g++) all *= doings;
        for (int number = 0; number < all; number++) {
            int[] row = new int[guests + 1];
            int rest = number;
            for (int g = guests; g >= 1; g--) {
                row[g] = rest % doings;
                rest /= doings;
            }
            int cost = 0;
            int much = 0;
            for (int g = 0; g < guests; g++) {
                int by = x.pleased(g, row[g + 1]);
                cost += x.ofDoing(row[g + 1], 1);
                much += by;
                if (by >= x.many(3)) row[0]++;
            }
            if (cost > 12) continue;
            if (most < 0 || row[0] < best[0] || row[0] == best[0] && much > most) {
                most = much;
                best = row;
            }
        }
        return best;
    }
}
