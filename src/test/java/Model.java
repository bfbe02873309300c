import java.util.ArrayList;
import java.util.Arrays;
import java.util.List;
import java.util.regex.Matcher;
import java.util.regex.Pattern;

/**
 * The document a second time, in another way than the program's: TEXTS by patterns, seasons by lists, FEWEST by trying
 * all rows, guests as objects of classes. Its FAULTS are truly the machine's, as the document says that they are.
 */
final class Model {
    private static final int UNKNOWN = -1, OUTSIDE = -2, STATE = -3, FULL = -4, NONE = -9;

    static class Guest {
        int taste;
        int love;

        int pleased(int charm, int doing) {
            return charm + taste + (love == doing ? 3 : 0);
        }

        int tell(Model in) {
            in.leave(1);
            return taste;
        }

        int greet(Model in, int number) {
            in.leave(4);
            return number;
        }
    }

    static class Critic extends Guest {
        @Override
        int pleased(int charm, int doing) {
            return super.pleased(charm, doing) / 2;
        }

        @Override
        int tell(Model in) {
            in.leave(2);
            return super.tell(in) + 100;
        }

        int tellLeftOut(Model in) {
            return super.tell(in);
        }
    }

    static final class Poet extends Critic {
        @Override
        int pleased(int charm, int doing) {
            return love == doing ? super.pleased(charm, doing) + 2 : 0;
        }

        @Override
        int tell(Model in) {
            in.leave(3);
            int critic = super.tell(in);
            return critic + tellLeftOut(in);
        }

        @Override
        int greet(Model in, int number) {
            in.leave(5);
            return 50;
        }
    }

    private record Read(int g, int d, boolean lost) { }

    private static final Pattern[] TEXTS = new Pattern[5];

    static {
        for (int d = 1; d <= 4; d++) {
            TEXTS[d] = Pattern.compile("z([0-5])([1-9])((?:/[0-9][0-3]){" + d + "})((?:;[gcp][0-9][0-" + (d - 1) + "]){2,6})");
        }
    }

    private List<Guest> guests = List.of();
    private int[] charm = {};
    private int[] cost = {};
    private int stars;
    private int strict;
    private final List<Read> reads = new ArrayList<>();
    private final Object[] sheets = new Object[4];
    private int trace;
    private int fault;

    private void leave(int number) {
        trace = (int) (31L * trace + number);
    }

    // ---- FAULTS

    private interface Body {
        long run();
    }

    private long named(long whenFaulty, Body body) {
        fault = 0;
        try {
            return body.run();
        } catch (NullPointerException e) {
            fault = 1;
        } catch (ClassCastException | ArrayStoreException e) {
            fault = 2;
        } catch (IndexOutOfBoundsException e) {
            fault = 3;
        } catch (NegativeArraySizeException e) {
            fault = 4;
        }
        return whenFaulty == StarLess.LOST ? StarLess.LOST : -10 - fault;
    }

    private int[] taken(int sheet, int lane, int i, int n) {
        int[] all;
        switch (lane) {
            case 0 -> {
                byte[] row = (byte[]) sheets[sheet];
                all = new int[row.length];
                for (int k = 0; k < row.length; k++) all[k] = row[k];
            }
            case 1 -> {
                short[] row = (short[]) sheets[sheet];
                all = new int[row.length];
                for (int k = 0; k < row.length; k++) all[k] = row[k];
            }
            default -> all = ((int[]) sheets[sheet]).clone();
        }
        // rows have 60 cells at most, so a part of 61 is beyond each of them, as any longer one is
        int[] part = new int[Math.min(n, 61)];
        System.arraycopy(all, i, part, 0, n);
        return part;
    }

    private static boolean noSheet(int k) {
        return k < 0 || k > 3;
    }

    private static boolean noLane(int lane) {
        return lane < 0 || lane > 2;
    }

    private boolean noGuest(int g) {
        return g < 0 || g >= guests.size();
    }

    private boolean noDoing(int d) {
        return d < 0 || d >= charm.length;
    }

    // ---- 1 the hotel

    int hotel(int sheet, int lane, int i, int n) {
        return (int) named(0, () -> {
            if (noSheet(sheet)) return UNKNOWN;
            if (noLane(lane)) return OUTSIDE;
            StringBuilder text = new StringBuilder();
            for (int code : taken(sheet, lane, i, n)) text.append(code >= 0 && code < 128 ? (char) code : '?');
            return read(text.toString());
        });
    }

    private int read(String text) {
        for (int d = 1; d <= 4; d++) {
            Matcher whole = TEXTS[d].matcher(text);
            if (whole.matches()) return make(whole, d);
        }
        int place = text.length();
        while (!goesOn(text.substring(0, place))) place--;
        return -100 - place;
    }

    private static boolean goesOn(String head) {
        for (int d = 1; d <= 4; d++) {
            Matcher part = TEXTS[d].matcher(head);
            if (part.matches() || part.hitEnd()) return true;
        }
        return false;
    }

    private int make(Matcher whole, int doings) {
        stars = Integer.parseInt(whole.group(1));
        strict = Integer.parseInt(whole.group(2));
        charm = new int[doings];
        cost = new int[doings];
        String[] told = whole.group(3).substring(1).split("/");
        for (int d = 0; d < doings; d++) {
            charm[d] = Integer.parseInt(told[d]) / 10;
            cost[d] = Integer.parseInt(told[d]) % 10;
        }
        guests = new ArrayList<>();
        for (String one : whole.group(4).substring(1).split(";")) {
            int numbers = Integer.parseInt(one.substring(1));
            guests.add(guest("gcp".indexOf(one.charAt(0)), numbers / 10, numbers % 10));
        }
        reads.clear();
        return guests.size();
    }

    private static Guest guest(int kind, int taste, int love) {
        Guest one = kind == 0 ? new Guest() : kind == 1 ? new Critic() : new Poet();
        one.taste = taste;
        one.love = love;
        return one;
    }

    private static int kindOf(Guest one) {
        return one instanceof Poet ? 2 : one instanceof Critic ? 1 : 0;
    }

    int ofGuest(int g, int what) {
        if (noGuest(g)) return UNKNOWN;
        if (what < 0 || what > 2) return OUTSIDE;
        Guest one = guests.get(g);
        return new int[] {kindOf(one), one.taste, one.love}[what];
    }

    int ofDoing(int d, int what) {
        if (noDoing(d)) return UNKNOWN;
        if (what < 0 || what > 2) return OUTSIDE;
        int set = 0;
        for (int g = 0; g < guests.size(); g++) if (pleased(g, d) >= strict) set += 1 << g;
        return new int[] {charm[d], cost[d], set}[what];
    }

    int strict(int v) {
        if (v < 1 || v > 9) return OUTSIDE;
        if (guests.isEmpty()) return STATE;
        int was = strict;
        strict = v;
        return was;
    }

    int stars(int v) {
        if (v < 0 || v > 5) return OUTSIDE;
        if (guests.isEmpty()) return STATE;
        int was = stars;
        stars = v;
        return was;
    }

    int pleased(int g, int d) {
        if (noGuest(g) || noDoing(d)) return UNKNOWN;
        return guests.get(g).pleased(charm[d], d);
    }

    // ---- 2 seasons

    /** The pairs in a row; null: a cell is no GUEST, no DOING. */
    private int[] pairs(int sheet, int lane, int i, int n) {
        int[] row = taken(sheet, lane, i, 2 * n);
        for (int k = 0; k < row.length; k++) if (k % 2 == 0 ? noGuest(row[k]) : noDoing(row[k])) return null;
        return row;
    }

    private int firstWrong(int[] row) {
        int paid = 0;
        for (int p = 0; p < row.length / 2; p++) {
            paid += cost[row[2 * p + 1]];
            if (paid > 12) return p;
        }
        return NONE;
    }

    /** How many pairs up to and with pair p have g PLEASED by STRICT at least. */
    private int lostBy(int g, int[] row, int p) {
        int lost = 0;
        for (int k = 0; k <= p; k++) if (row[2 * k] == g && pleased(g, row[2 * k + 1]) >= strict) lost++;
        return lost;
    }

    private int atEnd(int g, int[] row) {
        return Math.max(0, stars - lostBy(g, row, row.length / 2 - 1));
    }

    int season(int g, int sheet, int lane, int i, int n, int what) {
        return (int) named(0, () -> {
            if (noGuest(g) || noSheet(sheet)) return UNKNOWN;
            if (noLane(lane) || n < 0 || n > 20 || what < 0 || what > 4) return OUTSIDE;
            int[] row = pairs(sheet, lane, i, n);
            if (row == null) return UNKNOWN;
            int wrong = firstWrong(row);
            if (what == 1) return wrong;
            if (wrong != NONE) return -100 - wrong;
            int left = 12;
            int much = 0;
            for (int p = 0; p < n; p++) {
                left -= cost[row[2 * p + 1]];
                much += pleased(row[2 * p], row[2 * p + 1]);
            }
            int empty = NONE;
            for (int p = n - 1; p >= 0; p--) if (stars > 0 && lostBy(g, row, p) >= stars) empty = p;
            return new int[] {atEnd(g, row), wrong, empty, left, much}[what];
        });
    }

    int may(int sheet, int lane, int i, int n, int v) {
        return (int) named(0, () -> {
            if (noSheet(sheet)) return UNKNOWN;
            if (noLane(lane) || n < 0 || n > 20 || v < 0 || v > 5) return OUTSIDE;
            if (guests.isEmpty()) return STATE;
            int[] row = pairs(sheet, lane, i, n);
            if (row == null) return UNKNOWN;
            if (firstWrong(row) != NONE) return -100 - firstWrong(row);
            int set = 0;
            for (int g = 0; g < guests.size(); g++) if (atEnd(g, row) == v) set += 1 << g;
            return set;
        });
    }

    // ---- 3 what to do

    int ask(int set) {
        if (guests.isEmpty()) return STATE;
        if (set < 0 || set >> guests.size() != 0) return OUTSIDE;
        for (int pay = 0; pay <= 3; pay++) {
            for (int d = 0; d < charm.length; d++) {
                for (int g = 0; g < guests.size(); g++) {
                    if (cost[d] == pay && (set & 1 << g) != 0 && pleased(g, d) >= strict) return 10 * g + d;
                }
            }
        }
        return NONE;
    }

    int dull(int g) {
        if (noGuest(g)) return UNKNOWN;
        for (int much = strict - 1; much >= 0; much--) {
            for (int d = 0; d < charm.length; d++) if (pleased(g, d) == much) return d;
        }
        return NONE;
    }

    int fewest(int g) {
        if (g < -1) return UNKNOWN;
        if (guests.isEmpty()) return STATE;
        if (g >= guests.size()) return NONE;
        int[] best = null;
        int[] row = new int[guests.size()];
        do {
            int[] rank = rank(row);
            if (rank[2] <= 12 && (best == null || Arrays.compare(rank, 0, 2, best, 0, 2) < 0)) {
                best = new int[3 + row.length];
                System.arraycopy(rank, 0, best, 0, 3);
                System.arraycopy(row, 0, best, 3, row.length);
            }
        } while (nextRow(row));
        if (best == null) return NONE;
        return g < 0 ? best[0] : best[3 + g];
    }

    /** How many are won, how little all are pleased, what is paid. */
    private int[] rank(int[] row) {
        int[] rank = new int[3];
        for (int g = 0; g < row.length; g++) {
            if (pleased(g, row[g]) >= strict) rank[0]++;
            rank[1] -= pleased(g, row[g]);
            rank[2] += cost[row[g]];
        }
        return rank;
    }

    private boolean nextRow(int[] row) {
        for (int g = row.length - 1; g >= 0; g--) {
            if (++row[g] < charm.length) return true;
            row[g] = 0;
        }
        return false;
    }

    // ---- 4 stars that were lost

    int reading(int g, int d, boolean lost) {
        if (noGuest(g) || noDoing(d)) return UNKNOWN;
        if (reads.size() == 8) return FULL;
        reads.add(new Read(g, d, lost));
        return reads.size() - 1;
    }

    int back(int k) {
        if (k < 0 || k > reads.size()) return OUTSIDE;
        for (int n = 0; n < k; n++) reads.remove(reads.size() - 1);
        return reads.size();
    }

    private boolean allSo(int limit) {
        for (Read one : reads) if (pleased(one.g, one.d) >= limit != one.lost) return false;
        return true;
    }

    int limits() {
        if (guests.isEmpty()) return STATE;
        int set = 0;
        for (int v = 1; v <= 9; v++) if (allSo(v)) set += 1 << v;
        return set;
    }

    int kinds(int g) {
        if (noGuest(g)) return UNKNOWN;
        Guest was = guests.get(g);
        int set = 0;
        for (int v = 0; v < 3; v++) {
            guests.set(g, guest(v, was.taste, was.love));
            if (allSo(strict)) set += 1 << v;
        }
        guests.set(g, was);
        return set;
    }

    int tastes(int g) {
        if (noGuest(g)) return UNKNOWN;
        Guest was = guests.get(g);
        int set = 0;
        for (int v = 0; v < 10; v++) {
            guests.set(g, guest(kindOf(was), v, was.love));
            if (allSo(strict)) set += 1 << v;
        }
        guests.set(g, was);
        return set;
    }

    int charms(int d) {
        if (noDoing(d)) return UNKNOWN;
        int was = charm[d];
        int set = 0;
        for (int v = 0; v < 10; v++) {
            charm[d] = v;
            if (allSo(strict)) set += 1 << v;
        }
        charm[d] = was;
        return set;
    }

    long odds(int sheet, int lane, int i, int n, int v, int which) {
        int may = may(sheet, lane, i, n, v);
        if (may < 0 || which < 0 || which > 1) return StarLess.LOST;
        int upper = 0;
        for (int s = v; s <= 5; s++) upper += Integer.bitCount(may(sheet, lane, i, n, s));
        int lower = guests.size();
        for (int k = lower; k > 1; k--) {
            if (upper % k == 0 && lower % k == 0) {
                upper /= k;
                lower /= k;
            }
        }
        return which == 0 ? upper : lower;
    }

    // ---- 5 sheets, parts

    int sheet(int k, int lane, int n) {
        return (int) named(0, () -> {
            if (noSheet(k)) return UNKNOWN;
            if (noLane(lane) || n > 60) return OUTSIDE;
            sheets[k] = lane == 0 ? new byte[n] : lane == 1 ? new short[n] : new int[n];
            return 1;
        });
    }

    int lose(int k) {
        if (noSheet(k)) return UNKNOWN;
        boolean had = sheets[k] != null;
        sheets[k] = null;
        return had ? 1 : 0;
    }

    int put(int k, int i, int v) {
        return (int) named(0, () -> {
            if (noSheet(k)) return UNKNOWN;
            if (sheets[k] instanceof byte[] row) row[i] = (byte) v;
            else if (sheets[k] instanceof short[] row) row[i] = (short) v;
            else ((int[]) sheets[k])[i] = v;
            return 1;
        });
    }

    long cell(int k, int i, int lane) {
        return named(StarLess.LOST, () -> {
            if (noSheet(k) || noLane(lane)) return StarLess.LOST;
            if (lane == 0) return ((byte[]) sheets[k])[i];
            if (lane == 1) return ((short[]) sheets[k])[i];
            return ((int[]) sheets[k])[i];
        });
    }

    int copy(int k, int i, int other, int j, int n) {
        return (int) named(0, () -> {
            if (noSheet(k) || noSheet(other)) return UNKNOWN;
            System.arraycopy(sheets[k], i, sheets[other], j, n);
            return n;
        });
    }

    int tell(int g) {
        return noGuest(g) ? UNKNOWN : guests.get(g).tell(this);
    }

    int greet(int g) {
        return noGuest(g) ? UNKNOWN : guests.get(g).greet(this, g);
    }

    int as(int g, int kind) {
        return (int) named(0, () -> {
            if (noGuest(g)) return UNKNOWN;
            if (kind < 0 || kind > 2) return OUTSIDE;
            Guest one = guests.get(g);
            Guest taken = kind == 0 ? one : kind == 1 ? (Critic) one : (Poet) one;
            return taken == one ? 1 : 0;
        });
    }

    int trace() {
        return trace;
    }

    int fault() {
        return fault;
    }

    int many(int what) {
        if (what < 0 || what > 4) return OUTSIDE;
        return new int[] {guests.size(), charm.length, stars, strict, reads.size()}[what];
    }
}
