/**
 * The document's sentences that name a boundary case, one by one: too small, too large, empty, full, a wrap-around, a
 * refused call. What a wrong answer is printed with is the sentence (or its part) that is broken.
 */
public final class EdgeTest {
    private static final int MIN = Integer.MIN_VALUE, MAX = Integer.MAX_VALUE;
    private static final int UNKNOWN = -1, OUTSIDE = -2, STATE = -3, FULL = -4, NONE = -9;
    private static final int NULL = -11, CAST = -12, INDEX = -13, SIZE = -14;
    private static final long LOST = Due.LOST;

    public static void main(String[] args) {
        usedFor512Calls();
        refusalsChangeNothing();
        everyNamingCallTellsItsFault();
        emptyRangesTooNeedAPlace();
        aLengthBelow0();
        setsAndShares();

        textStars();
        textStrict();
        textDoings();
        textGuests();
        textLove();
        textEndsTooSoon();
        textBeginsInTheMidst();
        textMakesAllAnew();
        pleasedAtItsEnds();

        seasonSpends12();
        seasonLosesByStrictAtLeast();
        seasonEmpty();
        seasonSizes();
        mayJustSoMany();

        askEdges();
        dullEdges();
        fewestEdges();

        readingsAreEight();
        readingsHoldWhateverStars();
        sets();
        oddsNoFewer();

        sheetNumbersLanesSizes();
        cellsAreCut();
        copyBeyond();
        traceWraps();
        kindsAreAlsoThoseAhead();
        manyWithoutAHotel();
        orderOfHotel();
        orderOfSeason();
        orderOfMay();
        orderOfOdds();
        orderOfSheets();
        orderOfTheOthers();
        Due.end();
    }

    private static void is(String sentence, long got, long want) {
        Due.is("\"" + sentence + "\"", got, want);
    }

    private static void faulty(StarLess x, String sentence, long got, int want) {
        is(sentence, got, want);
        is("fault() tells it: " + sentence, x.fault(), -10 - want);
    }

    // ==== the terms' head

    private static void usedFor512Calls() {
        StarLess x = new StarLess();
        for (int call = 0; call < 511; call++) is("An object is used for at most 512 calls", x.sheet(call & 3, call % 3, 60), 1);
        is("at most 512 calls", x.cell(2, 59, 510 % 3), 0);
    }

    private static void refusalsChangeNothing() {
        String told = "They change nothing (but fault(), of a call that names FAULTS)";
        StarLess x = Due.at(Due.INN);
        Due.fill(x, 1, 0, 0, 0, 9, 0);
        int[] naming = {0, 0, 0, 0, 0, 0, 0, 0, 0};
        for (int k = 0; k < naming.length; k++) {
            faulty(x, "a fault ahead", x.put(1, 4, 0), INDEX);
            is(told, refusedNaming(x, k), k == 3 || k == 6 ? LOST : UNKNOWN);
            is(told, x.fault(), 0);
        }
        faulty(x, "a fault ahead", x.put(1, 4, 0), INDEX);
        long[] silent = {
            x.ofGuest(4, 0), x.ofDoing(3, 0), x.strict(0), x.stars(6), x.pleased(4, 0), x.ask(-1), x.dull(4), x.fewest(-2),
            x.reading(4, 0, true), x.back(1), x.kinds(4), x.tastes(4), x.charms(3), x.lose(4), x.tell(4), x.greet(4),
            x.many(5)};
        for (long one : silent) is(told, one == UNKNOWN || one == OUTSIDE ? 1 : 0, 1);
        is("a call that names no FAULTS leaves fault()", x.fault(), 3);
        is(told, x.many(0), 4);
        is(told, x.many(2), 2);
        is(told, x.many(3), 6);
        is(told, x.many(4), 0);
        is(told, x.trace(), 0);
        is(told, x.cell(1, 2, 0), 9);
        is(told, x.ofDoing(2, 2), 0b1011);
    }

    private static long refusedNaming(StarLess x, int which) {
        switch (which) {
            case 0: return x.hotel(4, 0, 0, 0);
            case 1: return x.season(4, 1, 0, 0, 1, 0);
            case 2: return x.may(1, 0, 0, 2, 0);
            case 3: return x.odds(1, 0, 0, 2, 0, 0);
            case 4: return x.sheet(4, 0, 0);
            case 5: return x.put(4, 0, 0);
            case 6: return x.cell(4, 0, 0);
            case 7: return x.copy(0, 0, 4, 0, 0);
            default: return x.as(4, 0);
        }
    }

    private static void everyNamingCallTellsItsFault() {
        StarLess x = Due.at(Due.INN);
        Due.fill(x, 1, 0, 1, 2);
        Due.fill(x, 2, 1, 5);
        String nothing = "1 NULL (there is nothing)";
        faulty(x, nothing, x.hotel(3, 0, 0, 0), NULL);
        faulty(x, nothing, x.season(0, 3, 0, 0, 0, 0), NULL);
        faulty(x, nothing, x.may(3, 0, 0, 0, 0), NULL);
        faulty(x, nothing, x.put(3, 0, 0), NULL);
        faulty(x, nothing, x.copy(3, 0, 1, 0, 0), NULL);
        faulty(x, nothing, x.copy(1, 0, 3, 0, 0), NULL);
        faulty(x, nothing, x.copy(3, 0, 3, 0, 0), NULL);
        lost(x, nothing, x.cell(3, 0, 0), 1);
        lost(x, nothing, x.odds(3, 0, 0, 0, 0, 0), 1);
        String another = "2 CAST (it is of another LANE, kind)";
        faulty(x, another, x.hotel(1, 1, 0, 0), CAST);
        faulty(x, another, x.season(0, 1, 2, 0, 0, 0), CAST);
        faulty(x, another, x.may(2, 0, 0, 0, 0), CAST);
        faulty(x, another, x.copy(1, 0, 2, 0, 0), CAST);
        faulty(x, another, x.as(0, 1), CAST);
        lost(x, another, x.cell(2, 0, 2), 2);
        lost(x, another, x.odds(1, 2, 0, 0, 0, 0), 2);
        for (int lane = 0; lane < 3; lane++) {
            lost(x, "(nothing is no CAST)", x.cell(3, -1, lane), 1);
            faulty(x, "(nothing is no CAST)", x.hotel(3, lane, 0, 0), NULL);
        }
        is("a call that comes to none", x.put(1, 0, 3), 1);
        is("0: it came to none", x.fault(), 0);
    }

    private static void lost(StarLess x, String sentence, long got, int fault) {
        is(sentence + " (LOST, where a long is answered)", got, LOST);
        is("fault() tells it: " + sentence, x.fault(), fault);
    }

    private static void emptyRangesTooNeedAPlace() {
        String told = "INDEX (of cells from i on also where i is not 0 .. how many there are, if none of them is taken, too)";
        StarLess x = Due.at(Due.INN);
        Due.fill(x, 1, 0, 1, 2);
        Due.fill(x, 2, 0);
        Due.fill(x, 3, 0, 7, 7);
        for (int i : new int[] {-1, 3, MIN, MAX}) {
            faulty(x, told, x.hotel(1, 0, i, 0), INDEX);
            faulty(x, told, x.season(0, 1, 0, i, 0, 0), INDEX);
            faulty(x, told, x.may(1, 0, i, 0, 0), INDEX);
            lost(x, told, x.odds(1, 0, i, 0, 0, 0), 3);
            faulty(x, told, x.copy(1, i, 3, 0, 0), INDEX);
            faulty(x, told, x.copy(3, 0, 1, i, 0), INDEX);
        }
        for (int i = 0; i < 3; i++) {
            is(told, x.hotel(1, 0, i, 0), -100);
            is(told, x.season(0, 1, 0, i, 0, 3), 12);
            is(told, x.may(1, 0, i, 0, 2), 0b1111);
            is(told, x.odds(1, 0, i, 0, 2, 0), 1);
            is(told, x.copy(1, i, 3, 2 - i, 0), 0);
            is(told, x.fault(), 0);
        }
        is("a row of 0 numbers", x.hotel(2, 0, 0, 0), -100);
        is("a row of 0 numbers", x.copy(2, 0, 2, 0, 0), 0);
        faulty(x, "a row of 0 numbers", x.hotel(2, 0, 1, 0), INDEX);
        faulty(x, "a row of 0 numbers", x.put(2, 0, 0), INDEX);
        lost(x, "a row of 0 numbers", x.cell(2, 0, 0), 3);
    }

    private static void aLengthBelow0() {
        StarLess x = new StarLess();
        Due.fill(x, 1, 0, 1, 2);
        for (int n : new int[] {-1, MIN}) {
            faulty(x, "4 SIZE (a length below 0)", x.sheet(1, 0, n), SIZE);
            faulty(x, "4 SIZE (a length below 0)", x.hotel(1, 0, 0, n), SIZE);
            faulty(x, "INDEX: i, j, n below 0 or beyond", x.copy(1, 0, 1, 0, n), INDEX);
        }
        is("changes nothing", x.cell(1, 1, 0), 2);
        is("a length of 0", x.sheet(1, 0, 0), 1);
    }

    private static void setsAndShares() {
        StarLess x = Due.at("z11/50;g50;g50;g50;g50;g50;g00");
        is("Sets are told as bits (bit k for number k)", x.ofDoing(0, 2), 0b111111);
        is("strict", x.strict(6), 1);
        is("Sets are told as bits (bit k for number k)", x.ofDoing(0, 2), 0b111111);
        is("strict", x.strict(9), 6);
        is("Sets are told as bits (bit k for number k)", x.ofDoing(0, 2), 0b011111);
        is("limits: bits 1 to 9", x.limits(), 0b1111111110);
        Due.fill(x, 1, 0, 0, 0, 1, 0, 2, 0, 3, 0, 4, 0, 5, 0);
        long[][] lowest = {{1, 1}, {5, 6}, {2, 3}, {1, 2}, {1, 3}, {1, 6}};
        for (int n = 0; n < 6; n++) {
            is("Shares in least terms", x.odds(1, 0, 0, n, 1, 0), lowest[n][0]);
            is("Shares in least terms", x.odds(1, 0, 0, n, 1, 1), lowest[n][1]);
        }
        is("nobody: upper", x.odds(1, 0, 0, 0, 2, 0), 0);
        is("lower number (above 0) in least terms", x.odds(1, 0, 0, 0, 2, 1), 1);
    }

    // ==== 1

    /** What a new object answers to a text that isn't taken. */
    private static void place(String sentence, String text, int place) {
        StarLess x = new StarLess();
        is(sentence + ": " + text, Due.read(x, text), -100 - place);
        is(sentence + ": no HOTEL: " + text, x.many(0), 0);
        is(sentence + ": no machine's fault: " + text, x.fault(), 0);
    }

    private static void textStars() {
        for (char sign = '0'; sign <= '5'; sign++) is("a digit 0 .. 5 (STARS)", Due.at("z" + sign + "1/00;g00;g00").many(2), sign - '0');
        for (char sign : new char[] {'6', '9', '/', ':', 'z', 0}) place("a digit 0 .. 5 (STARS)", "z" + sign + "1/00;g00;g00", 1);
        for (char sign : new char[] {'y', '{', 'Z', '0', 0}) place("z", sign + "01/00;g00;g00", 0);
    }

    private static void textStrict() {
        for (char sign = '1'; sign <= '9'; sign++) is("a digit 1 .. 9 (STRICT)", Due.at("z0" + sign + "/00;g00;g00").many(3), sign - '0');
        for (char sign : new char[] {'0', '/', ':', ';', 0}) place("a digit 1 .. 9 (STRICT)", "z0" + sign + "/00;g00;g00", 2);
    }

    private static void textDoings() {
        String guests = ";g00;g00";
        for (int n = 1; n <= 4; n++) is("1 to 4 DOINGS", Due.at("z01" + "/00".repeat(n) + guests).many(1), n);
        place("1 to 4 DOINGS", "z01" + guests, 3);
        place("the / of a fifth DOING", "z01" + "/00".repeat(5) + guests, 15);
        place("the / of a fifth DOING", "z01" + "/00".repeat(4) + "/", 15);
        for (char sign = '0'; sign <= '9'; sign++) {
            is("a digit 0 .. 9 (CHARM)", Due.at("z01/" + sign + "0" + guests).ofDoing(0, 0), sign - '0');
            String text = "z01/0" + sign + guests;
            if (sign <= '3') is("a digit 0 .. 3 (COST)", Due.at(text).ofDoing(0, 1), sign - '0');
            else place("a digit 0 .. 3 (COST)", text, 5);
        }
        for (char sign : new char[] {'/', ':', ';', 'g', 0}) {
            place("a digit 0 .. 9 (CHARM)", "z01/" + sign + "0" + guests, 4);
            place("a digit 0 .. 3 (COST)", "z01/0" + sign + guests, 5);
            place("of a second doing, too", "z01/00/" + sign + "0" + guests, 7);
        }
        for (char sign : new char[] {'.', '0', ':', '<', 'g', 0}) {
            place("; ahead of GUESTS, / ahead of DOINGS", "z01/00" + sign + "g00;g00", 6);
            place("; ahead of a second GUEST, too", "z01/00;g00" + sign + "g00", 10);
        }
    }

    private static void textGuests() {
        for (int n = 2; n <= 6; n++) is("then 2 to 6 GUESTS", Due.at("z01/00" + ";g00".repeat(n)).many(0), n);
        place("then 2 to 6 GUESTS", "z01/00", 6);
        place("then 2 to 6 GUESTS", "z01/00;g00", 10);
        place("the ; of a seventh GUEST", "z01/00" + ";g00".repeat(7), 30);
        place("the ; of a seventh GUEST", "z01/00" + ";g00".repeat(6) + ";", 30);
        place("codes behind the sixth GUEST", "z01/00" + ";g00".repeat(6) + "0", 30);
        place("codes behind the second GUEST", "z01/00" + ";g00".repeat(2) + "0", 14);
        place("no DOING behind a GUEST", "z01/00" + ";g00".repeat(2) + "/00", 14);
        for (int kind = 0; kind < 3; kind++) {
            is("Kinds: 0 GUEST (g); 1 CRITIC (c); 2 POET (p)", Due.at("z01/00;g00;" + "gcp".charAt(kind) + "00").ofGuest(1, 0), kind);
        }
        for (char sign : new char[] {'b', 'd', 'f', 'h', 'o', 'q', 'G', 'z', '0', 0}) place("a letter", "z01/00;" + sign + "00;g00", 7);
        for (char sign = '0'; sign <= '9'; sign++) {
            is("a digit 0 .. 9 (TASTE)", Due.at("z01/00;g00;g" + sign + "0").ofGuest(1, 1), sign - '0');
        }
        for (char sign : new char[] {'/', ':', ';', 'g', 0}) place("a digit 0 .. 9 (TASTE)", "z01/00;g00;g" + sign + "0", 12);
    }

    private static void textLove() {
        String told = "a digit (the DOING that they LOVE, one that there is)";
        for (int doings = 1; doings <= 4; doings++) {
            String head = "z01" + "/00".repeat(doings) + ";g00;g0";
            for (char sign = '0'; sign <= '9'; sign++) {
                if (sign < '0' + doings) is(told, Due.at(head + sign).ofGuest(1, 2), sign - '0');
                else place(told, head + sign, head.length());
            }
            place(told, head + '/', head.length());
            place(told, head + ';', head.length());
        }
    }

    private static void textEndsTooSoon() {
        String longest = "z59" + "/93".repeat(4) + ";p93".repeat(6);
        is("the longest TEXT", Due.at(longest).many(0), 6);
        for (int n = 0; n < longest.length(); n++) {
            boolean whole = n >= 23 && (n - 15) % 4 == 0;
            if (whole) is("a TEXT as well", Due.at(longest.substring(0, n)).many(0), (n - 15) / 4);
            else place("how many codes there are, if it just ends too soon", longest.substring(0, n), n);
        }
    }

    private static void textBeginsInTheMidst() {
        StarLess x = new StarLess();
        Due.fill(x, 0, 2, Due.codes("z2z01/00;g00;g00;"));
        is("the place (from 0 on): of the TEXT, not of the row", x.hotel(0, 2, 0, 17), -102);
        is("n cells of a SHEET from i on", x.hotel(0, 2, 2, 14), 2);
        is("it ends too soon where its cells do", x.hotel(0, 2, 2, 13), -113);
        is("the place (from 0 on): of the TEXT, not of the row", x.hotel(0, 2, 2, 15), -115);
        is("changes nothing", x.many(0), 2);
        Due.fill(x, 1, 2, Due.codes("z01/00;g00;g00"));
        is("as it is put", x.put(1, 0, 'z' + 65536), 1);
        is("an int is no code of its last bits", x.hotel(1, 2, 0, 14), -100);
        is("below 0", x.put(1, 0, -134), 1);
        is("a code below 0", x.hotel(1, 2, 0, 14), -100);
    }

    private static void textMakesAllAnew() {
        StarLess x = Due.at(Due.INN);
        for (int k = 0; k < 8; k++) is("readings, 8", x.reading(0, 0, true), k);
        is("strict", x.strict(1), 6);
        is("stars", x.stars(5), 2);
        is("a TEXT that is not taken", Due.read(x, Due.INN + ";"), -129);
        is("leaves the READINGS", x.many(4), 8);
        is("leaves STRICT", x.many(3), 1);
        is("leaves STARS", x.many(2), 5);
        is("A TEXT that is taken makes all anew", Due.read(x, Due.INN), 4);
        is("A TEXT that is taken makes all anew: no READINGS", x.many(4), 0);
        is("A TEXT that is taken makes all anew: STRICT", x.many(3), 6);
        is("A TEXT that is taken makes all anew: STARS", x.many(2), 2);
        is("so there is room again", x.reading(0, 0, true), 0);
        is("fewer GUESTS, DOINGS", Due.read(x, "z11/20;c10;p00"), 2);
        is("no GUEST of the HOTEL ahead", x.tell(2), UNKNOWN);
        is("no DOING of the HOTEL ahead", x.pleased(0, 1), UNKNOWN);
        is("no bit of the HOTEL ahead", x.ask(0b100), OUTSIDE);
        is("nor is it planned for", x.fewest(2), NONE);
        is("more GUESTS, DOINGS", Due.read(x, "z59/93/93/93/93;p93;p93;p93;p93;p93;p93"), 6);
        is("the last GUEST's LOVE", x.ofGuest(5, 2), 3);
    }

    private static void pleasedAtItsEnds() {
        StarLess x = Due.at("z11/90/90/00/10;g90;c90;p90;g02;c02;p02");
        int[][] want = {{21, 18, 9, 10}, {10, 9, 4, 5}, {12, 0, 0, 0}, {9, 9, 3, 1}, {4, 4, 1, 0}, {0, 0, 3, 0}};
        for (int g = 0; g < 6; g++) {
            for (int d = 0; d < 4; d++) is("PLEASED of GUEST " + g + " by DOING " + d, x.pleased(g, d), want[g][d]);
        }
        StarLess y = Due.at("z11/00/00;g00;c00;p00");
        is("and 3 more, if they LOVE it", y.pleased(0, 0), 3);
        is("by nothing", y.pleased(0, 1), 0);
        is("half of what a GUEST like them is (cut)", y.pleased(1, 0), 1);
        is("2 more than a CRITIC", y.pleased(2, 0), 3);
        is("but nothing (0), if they do not LOVE it", y.pleased(2, 1), 0);
    }

    // ==== 2

    private static void seasonSpends12() {
        String told = "there are 12 to spend: the first pair that costs more than is left";
        StarLess x = Due.at("z53/00/01/02/03;g00;g00");
        Due.fill(x, 1, 0, 0, 3, 0, 3, 0, 3, 0, 3, 0, 0, 0, 1);
        is("4 by 3 are just 12", x.season(0, 1, 0, 0, 4, 1), NONE);
        is("4 by 3 are just 12", x.season(0, 1, 0, 0, 4, 3), 0);
        is("what costs nothing can be with nothing left", x.season(0, 1, 0, 0, 5, 1), NONE);
        is(told, x.season(0, 1, 0, 0, 6, 1), 5);
        for (int what : new int[] {0, 2, 3, 4}) is("of one with a FIRST WRONG: -100 less that (but what 1)", x.season(0, 1, 0, 0, 6, what), -105);
        is("-100 less a FIRST WRONG", x.may(1, 0, 0, 6, 5), -105);
        is("a FIRST WRONG, too", x.odds(1, 0, 0, 6, 0, 0), LOST);
        is("it is no FAULT", x.fault(), 0);
        for (int pay = 1; pay <= 3; pay++) {
            StarLess y = Due.at("z53/0" + pay + "/00;g00;g00");
            Due.fill(y, 1, 1, new int[40]);
            is(told, y.season(0, 1, 1, 0, 20, 1), 12 / pay);
            is(told, y.season(0, 1, 1, 0, 12 / pay, 1), NONE);
            is(told, y.season(0, 1, 1, 0, 12 / pay + 1, 1), 12 / pay);
        }
        Due.fill(x, 1, 0, 0, 3, 0, 3, 0, 3, 0, 2, 0, 2, 0, 1);
        is("2 are more than 1", x.season(0, 1, 0, 0, 6, 1), 4);
        is("one below", x.season(0, 1, 0, 0, 4, 3), 1);
        Due.fill(x, 2, 0, new int[40]);
        is("the last pair costs 3", x.put(2, 39, 3), 1);
        for (int p = 0; p < 4; p++) is("four pairs cost 3", x.put(2, 2 * p + 1, 3), 1);
        is("the last pair of 20", x.season(1, 2, 0, 0, 20, 1), 19);
        is("the last pair of 20", x.season(1, 2, 0, 0, 20, 0), -119);
    }

    private static void seasonLosesByStrictAtLeast() {
        String told = "If the GUEST is the INSPECTOR and PLEASED by STRICT at least, a STAR is lost (if there is one)";
        StarLess x = Due.at("z15/20/10;g30;g00");
        Due.fill(x, 1, 2, 0, 0, 0, 1, 1, 0);
        // guest 0 is pleased by 8 and 4, guest 1 by 5
        is(told, x.season(0, 1, 2, 0, 1, 0), 0);
        is(told, x.season(0, 1, 2, 2, 1, 0), 1);
        is(told, x.season(1, 1, 2, 0, 1, 0), 1);
        is(told, x.season(1, 1, 2, 4, 1, 0), 0);
        is("strict", x.strict(6), 5);
        is(told, x.season(1, 1, 2, 4, 1, 0), 1);
        is("strict", x.strict(4), 6);
        is(told, x.season(0, 1, 2, 2, 1, 0), 0);
        is("(if there is one)", x.season(0, 1, 2, 0, 2, 0), 0);
        is("stars", x.stars(0), 1);
        is("(if there is one)", x.season(0, 1, 2, 0, 2, 0), 0);
        is("a season is as if", x.many(2), 0);
    }

    private static void seasonEmpty() {
        String told = "EMPTY: the first pair behind which there are no STARS but had been ahead of it";
        for (int stars = 0; stars <= 5; stars++) {
            StarLess x = Due.at("z" + stars + "1/90;g00;g00");
            Due.fill(x, 1, 0, 1, 0, 0, 0, 0, 0, 1, 0, 0, 0, 0, 0, 0, 0, 0, 0);
            int[] at = {NONE, 1, 2, 4, 5, 6};
            is(told, x.season(0, 1, 0, 0, 8, 2), at[stars]);
            is(told, x.season(0, 1, 0, 0, 8, 0), 0);
            if (stars == 0) continue;
            is("just up to it", x.season(0, 1, 0, 0, at[stars] + 1, 2), at[stars]);
            is("one pair less: NONE", x.season(0, 1, 0, 0, at[stars], 2), NONE);
            is("one pair less", x.season(0, 1, 0, 0, at[stars], 0), 1);
        }
        StarLess y = Due.at("z11/90;g00;g00");
        Due.fill(y, 1, 0, 0, 0);
        is("the pair 0", y.season(0, 1, 0, 0, 1, 2), 0);
        is("no pairs", y.season(0, 1, 0, 0, 0, 2), NONE);
    }

    private static void seasonSizes() {
        StarLess x = Due.at("z59/90;g90;g90");
        Due.fill(x, 1, 1, new int[60]);
        for (int n = 0; n <= 20; n++) is("n (0 .. 20)", x.season(0, 1, 1, 0, n, 4), 21 * n);
        is("n (0 .. 20)", x.season(0, 1, 1, 0, 21, 4), OUTSIDE);
        is("n (0 .. 20)", x.season(0, 1, 1, 0, -1, 4), OUTSIDE);
        is("n (0 .. 20)", x.season(0, 1, 1, 0, MAX, 4), OUTSIDE);
        is("n (0 .. 20)", x.season(0, 1, 1, 0, MIN, 4), OUTSIDE);
        is("n (0 .. 20)", x.may(1, 1, 0, 20, 0), 0b01);
        is("n (0 .. 20)", x.may(1, 1, 0, 21, 0), OUTSIDE);
        is("n (0 .. 20)", x.may(1, 1, 0, -1, 0), OUTSIDE);
        is("n (0 .. 20)", x.odds(1, 1, 0, 20, 1, 1), 2);
        is("n (0 .. 20)", x.odds(1, 1, 0, 21, 1, 1), LOST);
        is("cells from i on (2 n)", x.season(0, 1, 1, 20, 20, 1), NONE);
        faulty(x, "cells from i on (2 n)", x.season(0, 1, 1, 21, 20, 1), INDEX);
        faulty(x, "cells from i on (2 n)", x.may(1, 1, 59, 1, 0), INDEX);
        is("cells from i on (2 n)", x.may(1, 1, 58, 1, 4), 0b01);
        is("what (0 .. 4)", x.season(0, 1, 1, 0, 0, -1), OUTSIDE);
        is("what (0 .. 4)", x.season(0, 1, 1, 0, 0, 5), OUTSIDE);
        is("what (0 .. 4)", x.season(0, 1, 1, 0, 0, MIN), OUTSIDE);
        int[] want = {5, NONE, NONE, 12, 0};
        for (int what = 0; what < 5; what++) is("what (0 .. 4)", x.season(0, 1, 1, 0, 0, what), want[what]);
        for (int bad : new int[] {-1, 2, MIN, MAX}) {
            Due.fill(x, 2, 2, 0, 0, bad, 0, 0, bad);
            is("UNKNOWN, pair by pair: a cell is no GUEST", x.season(0, 2, 2, 2, 1, 1), UNKNOWN);
            is("UNKNOWN, pair by pair: no DOING", x.season(0, 2, 2, 4, 1, 1), UNKNOWN);
            is("UNKNOWN, pair by pair", x.may(2, 2, 0, 2, 5), UNKNOWN);
            is("UNKNOWN, pair by pair", x.may(2, 2, 4, 1, 5), UNKNOWN);
            is("UNKNOWN, pair by pair", x.odds(2, 2, 4, 1, 5, 0), LOST);
            is("only of the pairs that are taken", x.season(0, 2, 2, 0, 1, 1), NONE);
            is("only of the pairs that are taken", x.may(2, 2, 0, 1, 5), 0b10);
        }
        is("a DOING 1 that there is not, a GUEST 1 that there is", x.put(2, 3, 1), 1);
        is("a GUEST", x.put(2, 2, 1), 1);
        is("UNKNOWN, pair by pair: no DOING", x.season(0, 2, 2, 2, 1, 0), UNKNOWN);
    }

    private static void mayJustSoMany() {
        StarLess x = Due.at("z51/90;g00;g00;g00;g00;g00;g00");
        // guest g has g pairs
        Due.fill(x, 1, 0, 1, 0, 2, 0, 2, 0, 3, 0, 3, 0, 3, 0, 4, 0, 4, 0, 4, 0, 4, 0, 5, 0, 5, 0, 5, 0, 5, 0, 5, 0);
        for (int v = 0; v <= 5; v++) is("it ends with just so many", x.may(1, 0, 0, 15, v), 1 << 5 - v);
        is("v STARS (0 .. 5)", x.may(1, 0, 0, 15, -1), OUTSIDE);
        is("v STARS (0 .. 5)", x.may(1, 0, 0, 15, 6), OUTSIDE);
        is("v STARS (0 .. 5)", x.may(1, 0, 0, 15, MIN), OUTSIDE);
        is("stars", x.stars(0), 5);
        is("no STARS at first, none at its end", x.may(1, 0, 0, 15, 0), 0b111111);
        is("nobody", x.may(1, 0, 0, 15, 1), 0);
    }

    // ==== 3

    private static void askEdges() {
        StarLess x = Due.at("z59/93/92/91/90;g00;c01;p02;g03;c90;p91");
        is("OUTSIDE: set", x.ask(0b1000000), OUTSIDE);
        is("OUTSIDE: set", x.ask(-1), OUTSIDE);
        is("OUTSIDE: set", x.ask(MIN), OUTSIDE);
        is("OUTSIDE: set", x.ask(MAX), OUTSIDE);
        is("a set of nobody: NONE", x.ask(0), NONE);
        is("a set of all", x.ask(0b111111), 3);
        is("10 times the GUEST, and the DOING", x.ask(0b100000), 51);
        is("by STRICT at least: just 9", x.ask(0b010000), 43);
        is("by STRICT at least: 6, 8", x.ask(0b000110), NONE);
        is("strict", x.strict(8), 9);
        is("by STRICT at least: 8", x.ask(0b000110), 22);
        is("two guests: a set of three bits", Due.at("z01/00;g00;g00").ask(0b100), OUTSIDE);
        is("two guests: both", Due.at("z03/00;g00;g00").ask(0b11), 0);
        is("STATE: there is no HOTEL, ahead of the set", new StarLess().ask(MIN), STATE);
        // 0 and 1 cost alike: the first by DOING comes ahead of the first by GUEST
        is("of several the first by DOING, then GUEST", Due.at("z19/51/51;g01;g90").ask(0b11), 10);
        is("of several the first by DOING, then GUEST", Due.at("z19/51/50;g91;g90").ask(0b11), 1);
    }

    private static void dullEdges() {
        StarLess x = Due.at("z05/20/10/20/40;g01;c00;p03;g00");
        // 2 4 2 4; 2 0 1 2; 0 0 0 5; 5 1 2 4
        int[] want = {1, 0, 0, 3};
        for (int g = 0; g < 4; g++) is("the one that does most: of several the least", x.dull(g), want[g]);
        is("strict", x.strict(4), 5);
        int[] want4 = {0, 0, 0, 2};
        for (int g = 0; g < 4; g++) is("that PLEASE them by less than STRICT", x.dull(g), want4[g]);
        is("strict", x.strict(1), 4);
        int[] want1 = {NONE, 1, 0, NONE};
        for (int g = 0; g < 4; g++) is("NONE", x.dull(g), want1[g]);
        for (int g : new int[] {-1, 4, MIN, MAX}) is("UNKNOWN", x.dull(g), UNKNOWN);
        is("UNKNOWN: there is no HOTEL", new StarLess().dull(0), UNKNOWN);
    }

    private static void fewestEdges() {
        String told = "all COSTS together are 12 at most";
        is("just 12", Due.at("z11/02;g00;g00;g00;g00;g00;g00").fewest(-1), 6);
        is("just 12", Due.at("z11/03;g00;g00;g00;g00").fewest(3), 0);
        for (int g = -1; g < 5; g++) is("15: NONE: there is none", Due.at("z11/03;g00;g00;g00;g00;g00").fewest(g), NONE);
        for (int g = -1; g < 6; g++) is("18: NONE: there is none", Due.at("z11/03/93/93/93;g00;g00;g00;g00;g00;g00").fewest(g), NONE);
        // doing 0 wins nobody but costs 3: four may have it, and the most pleased are they who have it last
        StarLess x = Due.at("z19/03/90;g01;g01;g01;g01;g01;g01");
        int[] want = {2, 0, 0, 0, 0, 1, 1};
        for (int g = -1; g < 6; g++) is(told, x.fewest(g), want[g + 1]);
        StarLess y = Due.at("z19/00/10/10;g00;g01;g02");
        int[] most = {0, 0, 1, 2};
        for (int g = -1; g < 3; g++) is("of these, all are PLEASED the most together", y.fewest(g), most[g + 1]);
        StarLess z = Due.at("z15/40/10/10/20;g00;c00;g13");
        int[] first = {0, 3, 0, 1};
        for (int g = -1; g < 3; g++) is("of several the first as a row of DOINGS by GUESTS", z.fewest(g), first[g + 1]);
        is("the fewest GUESTS are PLEASED by STRICT at least", Due.at("z14/00/90;g00;g00").fewest(0), 0);
        is("by STRICT at least: just 3", Due.at("z13/00;g00;g00").fewest(-1), 2);
        is("by STRICT at least: 3 of 4", Due.at("z14/00;g00;g00").fewest(-1), 0);
        StarLess again = Due.at("z19/93/10;g90;g90;g90;g90;g91;g91");
        is("one HOTEL", again.fewest(-1), 6);
        is("asked again", again.fewest(-1), 6);
        is("four who pay all 12", Due.read(again, "z11/93/02;g90;g90;g90;g90"), 4);
        int[] dear = {4, 0, 0, 0, 0, NONE};
        for (int g = -1; g < 5; g++) is("a HOTEL behind another", again.fewest(g), dear[g + 1]);
        is("three who pay nothing", Due.read(again, "z11/90/01;g90;g90;g90"), 3);
        int[] cheap = {3, 0, 0, 0, NONE};
        for (int g = -1; g < 4; g++) is("a HOTEL behind another", again.fewest(g), cheap[g + 1]);
        is("no such GUEST", x.fewest(6), NONE);
        is("no such GUEST", x.fewest(MAX), NONE);
        is("UNKNOWN: g below -1", x.fewest(-2), UNKNOWN);
        is("UNKNOWN: g below -1, ahead of STATE", new StarLess().fewest(MIN), UNKNOWN);
        is("STATE: there is no HOTEL", new StarLess().fewest(-1), STATE);
        is("STATE: there is no HOTEL", new StarLess().fewest(MAX), STATE);
    }

    // ==== 4

    private static void readingsAreEight() {
        StarLess x = Due.at(Due.INN);
        is("The last k READINGS (0 .. as many as there are)", x.back(0), 0);
        is("The last k READINGS (0 .. as many as there are)", x.back(1), OUTSIDE);
        for (int k = 0; k < 8; k++) is("numbered from 0 on", x.reading(k & 3, k % 3, false), k);
        is("READINGS, 8 at most", x.reading(0, 0, false), FULL);
        is("FULL changes nothing", x.many(4), 8);
        is("UNKNOWN ahead of FULL", x.reading(4, 0, false), UNKNOWN);
        is("UNKNOWN ahead of FULL", x.reading(0, 3, false), UNKNOWN);
        for (int k : new int[] {9, -1, MIN, MAX}) is("The last k READINGS (0 .. as many as there are)", x.back(k), OUTSIDE);
        is("OUTSIDE changes nothing", x.many(4), 8);
        is("how many are left", x.back(1), 7);
        is("room again, its number", x.reading(0, 0, false), 7);
        is("FULL again", x.reading(0, 0, false), FULL);
        is("all of them", x.back(8), 0);
        is("none is left", x.back(1), OUTSIDE);
        is("all is free again", x.limits(), 0b1111111110);
        for (int bad : new int[] {-1, MIN, MAX}) {
            is("UNKNOWN: GUEST", x.reading(bad, 0, true), UNKNOWN);
            is("UNKNOWN: DOING", x.reading(0, bad, true), UNKNOWN);
        }
    }

    private static void readingsHoldWhateverStars() {
        StarLess x = Due.at("z09/00;g60;g00");
        is("no STARS: a STAR is lost nevertheless", x.reading(0, 0, true), 0);
        is("(whatever STARS there are)", x.kinds(0), 0b001);
        is("(whatever STARS there are)", x.limits(), 0b1111111110);
        is("many of one pair, more than STARS", x.reading(0, 0, true), 1);
        is("stars", x.stars(1), 0);
        is("(whatever STARS there are)", x.limits(), 0b1111111110);
        is("stars stay", x.many(2), 1);
    }

    private static void sets() {
        StarLess x = Due.at("z09/00/90;g91;g00;p00");
        // 9 21; 3 9; 3 0
        is("LIMITS: STRICT 1 .. 9", x.limits(), 0b1111111110);
        is("reading", x.reading(0, 0, true), 0);
        is("just 9 loses by STRICT 9", x.limits(), 0b1111111110);
        is("in place of what it is alone: STRICT stays", x.many(3), 9);
        is("in place of what it is alone: STRICT stays", x.ofDoing(0, 2), 0b001);
        is("reading", x.reading(1, 0, true), 1);
        is("just 3 loses by STRICT 3", x.limits(), 0b0000001110);
        is("reading", x.reading(2, 1, false), 2);
        is("0 loses by none", x.limits(), 0b0000001110);
        is("reading", x.reading(2, 1, true), 3);
        is("by none: both can't be", x.limits(), 0);
        is("by none: both can't be", x.kinds(2), 0);
        is("by none: both can't be", x.tastes(2), 0);
        is("by none: both can't be", x.charms(1), 0);
        is("back", x.back(4), 0);
        for (int g = 0; g < 3; g++) {
            is("no READINGS: KINDS of a GUEST: 0 .. 2", x.kinds(g), 0b111);
            is("no READINGS: TASTES of a GUEST: 0 .. 9", x.tastes(g), 0b1111111111);
        }
        for (int d = 0; d < 2; d++) is("no READINGS: CHARMS of a DOING: 0 .. 9", x.charms(d), 0b1111111111);
        is("reading", x.reading(0, 0, true), 0);
        is("just 9 of 9", x.tastes(0), 0b1000000000);
        is("0 .. 9 and 9", x.charms(0), 0b1111111111);
        is("reading", x.reading(1, 1, false), 1);
        is("9 less 9 is too much", x.tastes(1), 0);
        is("0 .. 8 less 9, but 9 by 0", x.charms(1), 0b0111111111);
        is("what it is stays", x.ofDoing(1, 0), 9);
        is("what it is stays", x.ofGuest(0, 1), 9);
        is("what it is stays", x.ofGuest(2, 0), 2);
        is("what it is stays", x.many(3), 9);
        for (int bad : new int[] {-1, 3, MIN, MAX}) {
            is("UNKNOWN", x.kinds(bad), UNKNOWN);
            is("UNKNOWN", x.tastes(bad), UNKNOWN);
            is("UNKNOWN", x.charms(bad), UNKNOWN);
        }
        is("UNKNOWN", x.charms(2), UNKNOWN);
        StarLess none = new StarLess();
        is("STATE: there is no HOTEL", none.limits(), STATE);
        is("UNKNOWN: there is no HOTEL", none.kinds(0), UNKNOWN);
        is("UNKNOWN: there is no HOTEL", none.tastes(0), UNKNOWN);
        is("UNKNOWN: there is no HOTEL", none.charms(0), UNKNOWN);
        is("UNKNOWN: there is no HOTEL", none.reading(0, 0, false), UNKNOWN);
    }

    private static void oddsNoFewer() {
        String told = "the share by which it ends with no fewer than v STARS";
        StarLess x = Due.at("z51/90;g00;g00;g00;g00;g00;g00");
        Due.fill(x, 1, 0, 1, 0, 2, 0, 2, 0, 3, 0, 3, 0, 3, 0, 4, 0, 4, 0, 4, 0, 4, 0, 5, 0, 5, 0, 5, 0, 5, 0, 5, 0);
        int[][] want = {{1, 1}, {5, 6}, {2, 3}, {1, 2}, {1, 3}, {1, 6}};
        for (int v = 0; v <= 5; v++) {
            is(told, x.odds(1, 0, 0, 15, v, 0), want[v][0]);
            is(told, x.odds(1, 0, 0, 15, v, 1), want[v][1]);
        }
        for (int v : new int[] {-1, 6, MIN, MAX}) is("v (0 .. 5", x.odds(1, 0, 0, 15, v, 0), LOST);
        for (int which : new int[] {-1, 2, MIN, MAX}) is("which 0 the upper, 1 the lower number", x.odds(1, 0, 0, 15, 0, which), LOST);
        is("stars", x.stars(0), 5);
        is("0 of all", x.odds(1, 0, 0, 15, 1, 0), 0);
        is("lower number (above 0)", x.odds(1, 0, 0, 15, 1, 1), 1);
    }

    // ==== 5

    private static void sheetNumbersLanesSizes() {
        StarLess x = new StarLess();
        for (int k : new int[] {-1, 4, MIN, MAX}) {
            is("SHEETS 0 .. 3", x.sheet(k, 0, 0), UNKNOWN);
            is("SHEETS 0 .. 3", x.lose(k), UNKNOWN);
            is("SHEETS 0 .. 3", x.put(k, 0, 0), UNKNOWN);
            is("SHEETS 0 .. 3", x.cell(k, 0, 0), LOST);
            is("SHEETS 0 .. 3", x.copy(k, 0, 0, 0, 0), UNKNOWN);
            is("SHEETS 0 .. 3", x.copy(0, 0, k, 0, 0), UNKNOWN);
            is("SHEETS 0 .. 3", x.hotel(k, 0, 0, 0), UNKNOWN);
            is("SHEETS 0 .. 3", x.may(k, 0, 0, 0, 0), UNKNOWN);
            is("SHEETS 0 .. 3", x.odds(k, 0, 0, 0, 0, 0), LOST);
        }
        for (int k = 0; k < 4; k++) is("SHEETS have nothing (at first)", x.lose(k), 0);
        for (int k = 0; k < 4; k++) {
            for (int lane = 0; lane < 3; lane++) {
                for (int n : new int[] {60, 0, 1}) {
                    is("0 .. 60 numbers of a LANE", x.sheet(k, lane, n), 1);
                    for (int i = 0; i < n; i++) is("(0 at first)", x.cell(k, i, lane), 0);
                    lost(x, "0 .. how many there are", x.cell(k, n, lane), 3);
                    lost(x, "0 .. how many there are", x.cell(k, -1, lane), 3);
                    faulty(x, "0 .. how many there are", x.put(k, n, 1), INDEX);
                    faulty(x, "0 .. how many there are", x.put(k, -1, 1), INDEX);
                    for (int i = 0; i < n; i++) is("Cell i of a SHEET becomes v: 1", x.put(k, i, 9), 1);
                }
            }
            is("n above 60", x.sheet(k, 0, 61), OUTSIDE);
            is("n above 60", x.sheet(k, 0, MAX), OUTSIDE);
            is("OUTSIDE: lane", x.sheet(k, 3, 1), OUTSIDE);
            is("OUTSIDE: lane", x.sheet(k, -1, 1), OUTSIDE);
            is("refused, so what it had stays", x.cell(k, 0, 2), 9);
            is("A SHEET has nothing: 1", x.lose(k), 1);
            is("0: it had nothing", x.lose(k), 0);
            is("a row of none is something", x.sheet(k, 0, 0), 1);
            is("a row of none is something", x.lose(k), 1);
        }
    }

    private static void cellsAreCut() {
        String told = "what comes to a cell of it is cut to its LANE";
        StarLess x = new StarLess();
        int[][] cuts = {
            {127, 127, 127}, {128, -128, 128}, {-128, -128, -128}, {-129, 127, -129}, {255, -1, 255}, {256, 0, 256},
            {32767, -1, 32767}, {32768, 0, -32768}, {-32768, 0, -32768}, {-32769, -1, 32767}, {65535, -1, -1}, {65536, 0, 0},
            {MAX, -1, -1}, {MIN, 0, 0}, {0x12345680, -128, 0x5680}};
        for (int lane = 0; lane < 3; lane++) {
            is("sheet", x.sheet(lane, lane, 60), 1);
            for (int k = 0; k < cuts.length; k++) {
                is(told, x.put(lane, 59 - k, cuts[k][0]), 1);
                is(told, x.cell(lane, 59 - k, lane), cuts[k][lane == 0 ? 1 : lane == 1 ? 2 : 0]);
            }
        }
    }

    private static void copyBeyond() {
        String told = "INDEX: i, j, n below 0 or beyond";
        StarLess x = new StarLess();
        Due.fill(x, 0, 2, 1, 2, 3, 4);
        Due.fill(x, 1, 2, MIN, MAX);
        int[][] beyond = {
            {-1, 0, 1}, {0, -1, 1}, {0, 0, -1}, {0, 0, 3}, {0, 1, 2}, {0, 2, 1}, {4, 0, 1}, {3, 0, 2}, {5, 0, 0}, {0, 3, 0},
            {MAX, 0, 1}, {1, 0, MAX}, {0, MAX, 1}, {0, 1, MAX}, {MAX, MAX, MAX}, {MIN, 0, MIN}, {0, 0, MIN}};
        for (int[] a : beyond) faulty(x, told, x.copy(0, a[0], 1, a[1], a[2]), INDEX);
        is("changes nothing", x.cell(1, 0, 2), MIN);
        is("changes nothing", x.cell(1, 1, 2), MAX);
        is("n cells, none", x.copy(0, 4, 1, 2, 0), 0);
        is("just to the end", x.copy(0, 2, 1, 0, 2), 2);
        is("just to the end", x.cell(1, 1, 2), 4);
        is("(perhaps the same), as they were: forth", x.copy(0, 0, 0, 1, 3), 3);
        for (int i = 0; i < 4; i++) is("as they were", x.cell(0, i, 2), i == 0 ? 1 : i);
        is("(perhaps the same), as they were: back", x.copy(0, 1, 0, 0, 3), 3);
        for (int i = 0; i < 4; i++) is("as they were", x.cell(0, i, 2), i == 3 ? 3 : i + 1);
        is("all, on itself", x.copy(0, 0, 0, 0, 4), 4);
        is("of longer ones cells that are no more", x.sheet(0, 2, 1), 1);
        faulty(x, told, x.copy(0, 0, 1, 0, 2), INDEX);
    }

    private static void traceWraps() {
        StarLess x = Due.at(Due.INN);
        is("0 at first", x.trace(), 0);
        is("no GUEST, no TRACE", x.tell(4), UNKNOWN);
        is("no GUEST, no TRACE", x.greet(-1), UNKNOWN);
        is("no GUEST, no TRACE", x.trace(), 0);
        int want = 0;
        boolean below = false;
        for (int k = 0; k < 20; k++) {
            is("greet", x.greet(2), 50);
            want = (int) (want * 31L + 5);
            below |= want < 0;
            is("an int that wraps, becomes 31 times it and the number", x.trace(), want);
        }
        is("it has wrapped", below ? 1 : 0, 1);
        StarLess z = Due.at("z01/00;g70;c80;p90");
        is("GREETED: their number", z.greet(0), 0);
        is("GREETED by a lent body (4)", z.trace(), 4);
        is("GREETED: their number", z.greet(1), 1);
        is("GREETED by a lent body (4)", z.trace(), 4 * 31 + 4);
        is("POETS have their own: 50", z.greet(2), 50);
        is("POETS have their own (5)", z.trace(), (4 * 31 + 4) * 31 + 5);
        StarLess y = Due.at("z01/00;p00;p90");
        is("TASTE 0: POET", y.tell(0), 100);
        is("TASTE 9: POET", y.tell(1), 118);
        is("3 2 1 1 3 2 1 1", y.trace(), ((((((3 * 31 + 2) * 31 + 1) * 31 + 1) * 31 + 3) * 31 + 2) * 31 + 1) * 31 + 1);
    }

    private static void kindsAreAlsoThoseAhead() {
        StarLess x = Due.at(Due.INN);
        is("a CRITIC, a GUEST", x.as(1, 0), 1);
        is("a POET, a CRITIC", x.as(2, 1), 1);
        is("a POET, a CRITIC, a GUEST", x.as(2, 0), 1);
        for (int g = 0; g < 3; g++) is("A GUEST, taken as one of their kind: 1", x.as(g, g), 1);
        is("GUEST 3 is a GUEST", x.as(3, 0), 1);
        faulty(x, "CAST: they are none", x.as(0, 1), CAST);
        faulty(x, "CAST: they are none", x.as(0, 2), CAST);
        faulty(x, "CAST: they are none", x.as(1, 2), CAST);
        for (int kind : new int[] {-1, 3, MIN, MAX}) is("OUTSIDE: a kind", x.as(2, kind), OUTSIDE);
        for (int g : new int[] {-1, 4, MIN, MAX}) is("UNKNOWN", x.as(g, 0), UNKNOWN);
    }

    private static void manyWithoutAHotel() {
        StarLess x = new StarLess();
        for (int what = 0; what < 5; what++) is("(0 all without a HOTEL)", x.many(what), 0);
        is("a TEXT that is not taken makes none", Due.read(x, "z59/93;g90"), -110);
        for (int what = 0; what < 5; what++) is("(0 all without a HOTEL)", x.many(what), 0);
        for (int what : new int[] {-1, 5, MIN, MAX}) is("OUTSIDE", x.many(what), OUTSIDE);
        is("UNKNOWN: no GUEST without a HOTEL", x.ofGuest(0, 9), UNKNOWN);
        is("UNKNOWN: no DOING without a HOTEL", x.ofDoing(0, 9), UNKNOWN);
        is("UNKNOWN: no GUEST without a HOTEL", x.pleased(0, 0), UNKNOWN);
        is("UNKNOWN: no GUEST without a HOTEL", x.tell(0), UNKNOWN);
        is("UNKNOWN: no GUEST without a HOTEL", x.greet(0), UNKNOWN);
        is("UNKNOWN: no GUEST without a HOTEL", x.as(0, 9), UNKNOWN);
        is("no READINGS without a HOTEL", x.back(0), 0);
        is("no READINGS without a HOTEL", x.back(1), OUTSIDE);
    }

    // ==== of several the first in the order in which a call's line tells them

    private static void orderOfHotel() {
        StarLess x = new StarLess();
        Due.fill(x, 1, 1, 'y');
        is("UNKNOWN, OUTSIDE", x.hotel(4, 3, -1, -1), UNKNOWN);
        is("OUTSIDE, NULL", x.hotel(0, 3, -1, -1), OUTSIDE);
        is("OUTSIDE, CAST", x.hotel(1, -1, -1, -1), OUTSIDE);
        faulty(x, "CAST, SIZE", x.hotel(1, 0, -1, -1), CAST);
        faulty(x, "NULL, SIZE", x.hotel(0, 0, -1, -1), NULL);
        faulty(x, "SIZE, INDEX", x.hotel(1, 1, -1, -1), SIZE);
        faulty(x, "SIZE, INDEX", x.hotel(1, 1, 2, -1), SIZE);
        faulty(x, "INDEX, FIRST FAULT", x.hotel(1, 1, 0, 2), INDEX);
        is("FIRST FAULT", x.hotel(1, 1, 0, 1), -100);
        is("FIRST FAULT is no FAULT", x.fault(), 0);
    }

    private static void orderOfSeason() {
        StarLess x = Due.at("z11/03;g00;g00");
        Due.fill(x, 1, 1, 0, 0, 0, 0, 0, 0, 0, 0, 0, 0, 2, 0);
        is("UNKNOWN: GUEST, OUTSIDE", x.season(2, 1, 3, -1, 21, 5), UNKNOWN);
        is("UNKNOWN: SHEET, OUTSIDE", x.season(0, 4, 3, -1, 21, 5), UNKNOWN);
        is("OUTSIDE: lane, CAST", x.season(0, 1, 3, -1, 1, 0), OUTSIDE);
        is("OUTSIDE: n, CAST", x.season(0, 1, 0, -1, 21, 0), OUTSIDE);
        is("OUTSIDE: what, CAST", x.season(0, 1, 0, -1, 1, 5), OUTSIDE);
        is("OUTSIDE: n, NULL", x.season(0, 2, 0, -1, -1, 0), OUTSIDE);
        faulty(x, "CAST, INDEX", x.season(0, 1, 0, -1, 1, 0), CAST);
        faulty(x, "NULL, INDEX", x.season(0, 2, 0, -1, 1, 0), NULL);
        faulty(x, "INDEX, UNKNOWN", x.season(0, 1, 1, 10, 2, 0), INDEX);
        is("UNKNOWN, pair by pair, FIRST WRONG", x.season(0, 1, 1, 0, 6, 1), UNKNOWN);
        is("FIRST WRONG", x.season(0, 1, 1, 0, 5, 1), 4);
        is("UNKNOWN: there is no GUEST without a HOTEL", new StarLess().season(0, 0, 9, 0, 0, 9), UNKNOWN);
    }

    private static void orderOfMay() {
        StarLess none = new StarLess();
        is("UNKNOWN, OUTSIDE", none.may(4, 3, 0, 21, 6), UNKNOWN);
        is("OUTSIDE: lane, STATE", none.may(0, 3, 0, 0, 0), OUTSIDE);
        is("OUTSIDE: n, STATE", none.may(0, 0, 0, 21, 0), OUTSIDE);
        is("OUTSIDE: v, STATE", none.may(0, 0, 0, 0, 6), OUTSIDE);
        is("STATE, NULL", none.may(0, 0, 0, 0, 0), STATE);
        Due.fill(none, 0, 1);
        is("STATE, CAST", none.may(0, 0, 0, 0, 0), STATE);
        is("STATE, INDEX", none.may(0, 1, 1, 0, 0), STATE);
        StarLess x = Due.at("z11/03;g00;g00");
        Due.fill(x, 1, 1, 0, 0, 0, 0, 0, 0, 0, 0, 0, 0, 2, 0);
        faulty(x, "CAST, INDEX", x.may(1, 0, -1, 1, 0), CAST);
        faulty(x, "NULL, INDEX", x.may(2, 0, -1, 1, 0), NULL);
        faulty(x, "INDEX, UNKNOWN", x.may(1, 1, 10, 2, 0), INDEX);
        is("UNKNOWN, FIRST WRONG", x.may(1, 1, 0, 6, 0), UNKNOWN);
        is("FIRST WRONG", x.may(1, 1, 0, 5, 0), -104);
    }

    private static void orderOfOdds() {
        StarLess none = new StarLess();
        is("LOST: as may(): STATE", none.odds(0, 0, 0, 0, 0, 0), LOST);
        is("a refusal is no FAULT", none.fault(), 0);
        StarLess x = Due.at("z11/03;g00;g00");
        Due.fill(x, 1, 1, 0, 0, 0, 0, 0, 0, 0, 0, 0, 0, 2, 0);
        lost(x, "LOST: as may(): OUTSIDE, CAST", x.odds(1, 0, -1, 21, 0, 0), 0);
        lost(x, "LOST: as may(): CAST, INDEX", x.odds(1, 0, -1, 1, 0, 0), 2);
        lost(x, "LOST: as may(): NULL, INDEX", x.odds(2, 0, -1, 1, 0, 0), 1);
        lost(x, "LOST: as may(): INDEX, UNKNOWN", x.odds(1, 1, 10, 2, 0, 0), 3);
        lost(x, "LOST: as may(): UNKNOWN", x.odds(1, 1, 10, 1, 0, 0), 0);
        lost(x, "LOST: as may(), which OUTSIDE", x.odds(1, 1, 10, 2, 0, 2), 3);
        lost(x, "which OUTSIDE", x.odds(1, 1, 0, 1, 0, 2), 0);
        lost(x, "a FIRST WRONG, too", x.odds(1, 1, 0, 5, 0, 0), 0);
        is("none wrong", x.odds(1, 1, 0, 4, 0, 0), 1);
    }

    private static void orderOfSheets() {
        StarLess x = new StarLess();
        Due.fill(x, 1, 1, 5, 6);
        Due.fill(x, 2, 2, 7);
        is("UNKNOWN, OUTSIDE", x.sheet(4, 3, -1), UNKNOWN);
        is("OUTSIDE: lane, SIZE", x.sheet(1, 3, -1), OUTSIDE);
        is("OUTSIDE: lane, SIZE", x.sheet(1, -1, MIN), OUTSIDE);
        faulty(x, "SIZE", x.sheet(1, 0, -1), SIZE);
        is("changes nothing", x.cell(1, 1, 1), 6);
        is("UNKNOWN, NULL", x.put(-1, -1, 0), UNKNOWN);
        faulty(x, "NULL, INDEX", x.put(0, -1, 0), NULL);
        lost(x, "UNKNOWN", x.cell(4, 0, 0), 0);
        lost(x, "OUTSIDE: lane, CAST", x.cell(1, 0, 3), 0);
        lost(x, "OUTSIDE: lane, NULL", x.cell(0, 0, -1), 0);
        lost(x, "CAST, INDEX", x.cell(1, 2, 2), 2);
        lost(x, "NULL, INDEX", x.cell(0, -1, 2), 1);
        is("UNKNOWN, NULL", x.copy(0, 0, 4, 0, 0), UNKNOWN);
        is("UNKNOWN, NULL", x.copy(4, 0, 0, 0, 0), UNKNOWN);
        faulty(x, "NULL (the first), INDEX", x.copy(0, -1, 1, 0, 0), NULL);
        faulty(x, "NULL (the other), INDEX", x.copy(1, -1, 0, 0, 0), NULL);
        faulty(x, "CAST (unlike LANES), INDEX", x.copy(1, 0, 2, 0, 2), CAST);
        faulty(x, "CAST (unlike LANES), of no cells, too", x.copy(2, 0, 1, 0, 0), CAST);
    }

    private static void orderOfTheOthers() {
        StarLess none = new StarLess();
        for (int v : new int[] {0, 10, MIN, MAX}) is("STRICT becomes v (1 .. 9): OUTSIDE, STATE", none.strict(v), OUTSIDE);
        for (int v : new int[] {-1, 6, MIN, MAX}) is("STARS become v (0 .. 5): OUTSIDE, STATE", none.stars(v), OUTSIDE);
        for (int v = 1; v <= 9; v++) is("STATE: there is no HOTEL", none.strict(v), STATE);
        for (int v = 0; v <= 5; v++) is("STATE: there is no HOTEL", none.stars(v), STATE);
        is("refused", none.many(3) + none.many(2), 0);
        StarLess x = Due.at(Due.INN);
        for (int v : new int[] {0, 10, MIN, MAX}) is("STRICT becomes v (1 .. 9)", x.strict(v), OUTSIDE);
        for (int v : new int[] {-1, 6, MIN, MAX}) is("STARS become v (0 .. 5)", x.stars(v), OUTSIDE);
        for (int v = 1; v <= 9; v++) is("STRICT becomes v: what it was", x.strict(v), v == 1 ? 6 : v - 1);
        for (int v = 0; v <= 5; v++) is("STARS become v: what they were", x.stars(v), v == 0 ? 2 : v - 1);
        for (int bad : new int[] {-1, 4, MIN, MAX}) {
            is("UNKNOWN, OUTSIDE", x.ofGuest(bad, 3), UNKNOWN);
            is("UNKNOWN", x.pleased(bad, 0), UNKNOWN);
            is("UNKNOWN", x.tell(bad), UNKNOWN);
            is("UNKNOWN", x.greet(bad), UNKNOWN);
        }
        for (int bad : new int[] {-1, 3, MIN, MAX}) {
            is("UNKNOWN, OUTSIDE", x.ofDoing(bad, 3), UNKNOWN);
            is("UNKNOWN", x.pleased(0, bad), UNKNOWN);
            is("OUTSIDE", x.ofGuest(3, bad), OUTSIDE);
            is("OUTSIDE", x.ofDoing(2, bad), OUTSIDE);
        }
    }
}
