/** The boundaries that the terms (III: REST, SHUT) and the promises 44 to 50 name, sentence by sentence. */
public final class ChanceEdgesTest {
    private static final int TERMS = Document.TERMS;
    private static final Check CHECK = new Check("ChanceEdgesTest");
    private static final int[] NO_WAX = {-1, 10, Integer.MIN_VALUE, Integer.MAX_VALUE};
    private static final int[] NO_CHANCES = {-1, 9, Integer.MIN_VALUE, Integer.MAX_VALUE};
    private static final int[] NO_DRAWS = {-1, 201, Integer.MIN_VALUE, Integer.MAX_VALUE};
    private static final int[] NO_SEEDS = {-1, 65537, Integer.MIN_VALUE, Integer.MAX_VALUE};

    private ChanceEdgesTest() {
    }

    public static void main(String[] args) {
        shares();
        shutTerms();
        seedTerms();
        dares();
        rests();
        odds();
        mean();
        drawn();
        firstShut();
        CHECK.end();
    }

    /** 0 and 1 by turns. */
    private static WaxTurns byTurns(int shut) {
        return Check.with("gallery figures 2 span 3 stairs 0 shut " + shut + ";law times 1 plus 1 first 0");
    }

    /** Always 1, but for the first TURN, which is 0's. */
    private static WaxTurns always(int shut) {
        return Check.with("gallery figures 2 span 3 stairs 0 shut " + shut + ";law times 0 plus 1 first 0");
    }

    private static void odds(WaxTurns x, int f, int n, long upper, long lower) {
        CHECK.taken(x, "odds(" + f + ", " + n + ", false)", x.odds(f, n, false), upper);
        CHECK.taken(x, "odds(" + f + ", " + n + ", true)", x.odds(f, n, true), lower);
    }

    private static void mean(WaxTurns x, int f, int n, long upper, long lower) {
        CHECK.taken(x, "mean(" + f + ", " + n + ", false)", x.mean(f, n, false), upper);
        CHECK.taken(x, "mean(" + f + ", " + n + ", true)", x.mean(f, n, true), lower);
    }

    // ---- terms, III

    private static void shares() {
        CHECK.sentence(TERMS, "moves, turns: 0 less wax, 3; moves, waits: 4, 0; stands, turns: 1, 0 less 1; stands, waits: "
            + "0, 1.");
        WaxTurns x = byTurns(0);
        for (int wax = 0; wax <= 9; wax += 9) {
            CHECK.taken(x, "moves, turns", x.dares(wax, true, true, false), -wax);
            CHECK.taken(x, "moves, turns, his", x.dares(wax, true, true, true), 3);
            CHECK.taken(x, "moves, waits", x.dares(wax, true, false, false), 4);
            CHECK.taken(x, "moves, waits, his", x.dares(wax, true, false, true), 0);
            CHECK.taken(x, "stands, turns", x.dares(wax, false, true, false), 1);
            CHECK.taken(x, "stands, turns, his", x.dares(wax, false, true, true), -1);
            CHECK.taken(x, "stands, waits", x.dares(wax, false, false, false), 0);
            CHECK.taken(x, "stands, waits, his", x.dares(wax, false, false, true), 1);
        }
        CHECK.sentence(TERMS, "REST: a pair by which neither could have more alone.");
        // Whoever moves while he turns would rather stand, as 1 is more than 0 less wax, even by wax 0; and so round.
        CHECK.taken(x, "rests(0)", x.rests(0), 0);
        CHECK.taken(x, "rest(0)", x.rest(0), -2);
    }

    private static void shutTerms() {
        CHECK.sentence(TERMS, "SHUT by chance: in each TURN from the next one on, as likely as told, nobody is alive (the law "
            + "goes on).");
        WaxTurns never = byTurns(0);
        odds(never, 1, 1, 1, 1);
        WaxTurns ever = byTurns(100);
        odds(ever, 1, 1, 0, 1);
        odds(ever, 1, 8, 0, 1);
        WaxTurns least = byTurns(1);
        odds(least, 1, 1, 99, 100);
        WaxTurns most = byTurns(99);
        odds(most, 1, 1, 1, 100);
        // Those behind a shut one are whose they are anyhow: of 0 and 1 by turns each second is 1's.
        mean(byTurns(50), 1, 8, 2, 1);
        mean(byTurns(50), 0, 8, 2, 1);
    }

    private static void seedTerms() {
        CHECK.sentence(TERMS, "By a SEED: a DRAW mod 100 for each: below shut nobody is (SEED becomes (75 times SEED and 74) "
            + "mod 65,537)");
        // From 0: 74, 5624, 28652: 74, 24, 52 of a hundred.
        WaxTurns x = byTurns(24);
        CHECK.taken(x, "firstShut(0, 3), 24 isn't below 24", x.firstShut(0, 3), -2);
        WaxTurns y = byTurns(25);
        CHECK.taken(y, "firstShut(0, 3), 24 is below 25", y.firstShut(0, 3), 2);
        WaxTurns z = byTurns(75);
        CHECK.taken(z, "firstShut(0, 3), 74 is below 75", z.firstShut(0, 3), 1);
        // The last SEED of all becomes itself, 36 of a hundred; 65535 becomes 65461, 61.
        WaxTurns last = byTurns(36);
        CHECK.taken(last, "firstShut(65536, 200)", last.firstShut(65536, 200), -2);
        WaxTurns one = byTurns(37);
        CHECK.taken(one, "firstShut(65536, 200)", one.firstShut(65536, 200), 1);
        WaxTurns other = byTurns(61);
        CHECK.taken(other, "firstShut(65535, 1)", other.firstShut(65535, 1), -2);
        WaxTurns wrapped = byTurns(62);
        CHECK.taken(wrapped, "firstShut(65535, 1)", wrapped.firstShut(65535, 1), 1);
        CHECK.taken(wrapped, "the SEED is the call's own", wrapped.firstShut(65535, 1), 1);
    }

    // ---- promises 44 to 50

    private static void dares() {
        CHECK.sentence(44, "wax is so much (0 .. 9). -100: 1 (no GALLERY); 2.");
        WaxTurns x = byTurns(0);
        CHECK.taken(x, "dares(0)", x.dares(0, true, true, false), 0);
        CHECK.taken(x, "dares(9)", x.dares(9, true, true, false), -9);
        for (int wax : NO_WAX) {
            for (int how = 0; how < 8; how++) {
                int share = x.dares(wax, how % 2 == 1, how / 2 % 2 == 1, how / 4 == 1);
                CHECK.due("dares(" + wax + ")", share, -100);
                CHECK.due("trouble()", x.trouble(), 2);
            }
        }
        WaxTurns none = new WaxTurns();
        CHECK.due("dares(0), no GALLERY", none.dares(0, true, true, true), -100);
        CHECK.due("trouble()", none.trouble(), 1);
        CHECK.due("dares(10), no GALLERY", none.dares(10, false, false, false), -100);
        CHECK.due("trouble(), both", none.trouble(), 1);
    }

    private static void rests() {
        WaxTurns x = byTurns(0);
        WaxTurns none = new WaxTurns();
        CHECK.sentence(45, "How many RESTS. NONE: 1 (no GALLERY); 2.");
        CHECK.taken(x, "rests(0)", x.rests(0), 0);
        CHECK.taken(x, "rests(9)", x.rests(9), 0);
        for (int wax : NO_WAX) {
            CHECK.refused(x, "rests(" + wax + ")", x.rests(wax), 2);
        }
        CHECK.refused(none, "rests(0)", none.rests(0), 1);
        CHECK.refused(none, "rests(10)", none.rests(10), 1);
        CHECK.sentence(46, "10 if it moves, and 1 if he turns; -2. NONE: likewise.");
        CHECK.taken(x, "rest(0), there is none", x.rest(0), -2);
        CHECK.taken(x, "rest(9), there is none", x.rest(9), -2);
        for (int wax : NO_WAX) {
            CHECK.refused(x, "rest(" + wax + ")", x.rest(wax), 2);
        }
        CHECK.refused(none, "rest(0)", none.rest(0), 1);
        CHECK.refused(none, "rest(10)", none.rest(10), 1);
    }

    private static void odds() {
        CHECK.sentence(47, "How likely a figure (GONE or not, of any KIND) is alive in some of the next n TURNS (0 .. 8), its "
            + "own by the law");
        WaxTurns half = byTurns(50);
        odds(half, 1, 0, 0, 1);
        odds(half, 1, 1, 1, 2);
        odds(half, 1, 8, 15, 16);
        WaxTurns each = always(50);
        odds(each, 1, 8, 255, 256);
        // 99 to the eighth, and a hundred to it, have no divisor alike.
        WaxTurns most = always(99);
        odds(most, 1, 8, 772553055720799L, 10000000000000000L);
        WaxTurns gone = Check.with("gallery figures 3 span 1 stairs 1 shut 50;law times 0 plus 1 first 1;"
            + "figure a is 1 walks 1;figure b is 2 speaks 1");
        CHECK.taken(gone, "go(1)", gone.go(1), 2);
        odds(gone, 1, 1, 1, 2);
        CHECK.taken(gone, "wind(2)", gone.wind(2), 1);
        odds(gone, 2, 8, 0, 1);
        CHECK.sentence(47, "that of the next minute aside");
        WaxTurns x = byTurns(50);
        odds(x, 0, 1, 0, 1);
        x.go(2);
        odds(x, 0, 1, 0, 1);
        odds(x, 1, 1, 1, 2);
        x.go(1);
        odds(x, 0, 1, 1, 2);
        odds(x, 1, 1, 0, 1);
        CHECK.sentence(47, "the upper WHOLE or the lower, in lowest terms (0 by 1)");
        odds(byTurns(100), 1, 8, 0, 1);
        odds(byTurns(0), 1, 8, 1, 1);
        odds(byTurns(20), 1, 1, 4, 5);
        odds(byTurns(33), 1, 1, 67, 100);
        odds(always(75), 1, 2, 7, 16);
        CHECK.sentence(47, "-1: 1; 2.");
        for (int n : NO_CHANCES) {
            CHECK.refused(half, "odds(0, " + n + ", true)", half.odds(0, n, true), 2);
            CHECK.refused(half, "odds(0, " + n + ", false)", half.odds(0, n, false), 2);
            CHECK.refused(half, "odds(2, " + n + ", true), both", half.odds(2, n, true), 1);
        }
        for (int f : new int[] {-1, 2, Integer.MIN_VALUE, Integer.MAX_VALUE}) {
            CHECK.refused(half, "odds(" + f + ", 0, true)", half.odds(f, 0, true), 1);
            CHECK.refused(half, "odds(" + f + ", 0, false)", half.odds(f, 0, false), 1);
        }
        WaxTurns none = new WaxTurns();
        CHECK.refused(none, "odds(0, 0, true)", none.odds(0, 0, true), 1);
        CHECK.refused(none, "odds(0, 9, false)", none.odds(0, 9, false), 1);
    }

    private static void mean() {
        CHECK.sentence(48, "The mean of in how many of them it is, likewise.");
        WaxTurns half = byTurns(50);
        mean(half, 1, 0, 0, 1);
        mean(half, 0, 1, 0, 1);
        mean(half, 1, 1, 1, 2);
        mean(half, 1, 3, 1, 1);
        mean(half, 1, 8, 2, 1);
        mean(always(0), 1, 8, 8, 1);
        mean(always(100), 1, 8, 0, 1);
        mean(always(99), 1, 8, 2, 25);
        mean(always(1), 1, 7, 693, 100);
        half.go(3);
        mean(half, 1, 1, 0, 1);
        mean(half, 0, 1, 1, 2);
        CHECK.sentence(48, "-1: 1; 2.");
        for (int n : NO_CHANCES) {
            CHECK.refused(half, "mean(0, " + n + ", true)", half.mean(0, n, true), 2);
            CHECK.refused(half, "mean(0, " + n + ", false)", half.mean(0, n, false), 2);
            CHECK.refused(half, "mean(2, " + n + ", true), both", half.mean(2, n, true), 1);
        }
        for (int f : new int[] {-1, 2, Integer.MIN_VALUE, Integer.MAX_VALUE}) {
            CHECK.refused(half, "mean(" + f + ", 0, true)", half.mean(f, 0, true), 1);
            CHECK.refused(half, "mean(" + f + ", 0, false)", half.mean(f, 0, false), 1);
        }
        WaxTurns none = new WaxTurns();
        CHECK.refused(none, "mean(0, 0, true)", none.mean(0, 0, true), 1);
        CHECK.refused(none, "mean(0, 9, false)", none.mean(0, 9, false), 1);
    }

    private static void drawn() {
        CHECK.sentence(49, "In how many of the next n TURNS (0 .. 200), that of the next minute aside, a figure is alive with "
            + "SHUT ones by a SEED (0 .. 65,536).");
        WaxTurns open = always(0);
        CHECK.taken(open, "drawn(1, 0, 0)", open.drawn(1, 0, 0), 0);
        CHECK.taken(open, "drawn(1, 0, 1)", open.drawn(1, 0, 1), 1);
        CHECK.taken(open, "drawn(1, 65536, 200)", open.drawn(1, 65536, 200), 200);
        CHECK.taken(open, "drawn(0, 0, 200), that of the next minute aside", open.drawn(0, 0, 200), 0);
        WaxTurns shut = always(100);
        CHECK.taken(shut, "drawn(1, 0, 200)", shut.drawn(1, 0, 200), 0);
        // From 0: 74, 24, 52 of a hundred; for 1, 0, 1 by turns.
        WaxTurns x = byTurns(53);
        CHECK.taken(x, "drawn(1, 0, 1)", x.drawn(1, 0, 1), 1);
        CHECK.taken(x, "drawn(0, 0, 2), shut", x.drawn(0, 0, 2), 0);
        CHECK.taken(x, "drawn(1, 0, 3), shut", x.drawn(1, 0, 3), 1);
        WaxTurns y = byTurns(52);
        CHECK.taken(y, "drawn(1, 0, 3), 52 isn't below 52", y.drawn(1, 0, 3), 2);
        x.go(2);
        CHECK.taken(x, "drawn(1, 0, 1), within a TURN", x.drawn(1, 0, 1), 1);
        x.go(1);
        CHECK.taken(x, "drawn(0, 0, 1), a TURN later", x.drawn(0, 0, 1), 1);
        CHECK.taken(x, "drawn(1, 0, 1), a TURN later", x.drawn(1, 0, 1), 0);
        CHECK.sentence(49, "NONE: 1; 2.");
        for (int n : NO_DRAWS) {
            CHECK.refused(x, "drawn(0, 0, " + n + ")", x.drawn(0, 0, n), 2);
            CHECK.refused(x, "drawn(2, 0, " + n + "), both", x.drawn(2, 0, n), 1);
        }
        for (int seed : NO_SEEDS) {
            CHECK.refused(x, "drawn(0, " + seed + ", 1)", x.drawn(0, seed, 1), 2);
            CHECK.refused(x, "drawn(2, " + seed + ", 1), both", x.drawn(2, seed, 1), 1);
        }
        for (int f : new int[] {-1, 2, Integer.MIN_VALUE, Integer.MAX_VALUE}) {
            CHECK.refused(x, "drawn(" + f + ", 0, 0)", x.drawn(f, 0, 0), 1);
        }
        WaxTurns none = new WaxTurns();
        CHECK.refused(none, "drawn(0, 0, 0)", none.drawn(0, 0, 0), 1);
        CHECK.refused(none, "drawn(0, -1, 201)", none.drawn(0, -1, 201), 1);
    }

    private static void firstShut() {
        CHECK.sentence(50, "Which of them (1 .. n) is the first one SHUT; -2.");
        WaxTurns shut = byTurns(100);
        CHECK.taken(shut, "firstShut(0, 1)", shut.firstShut(0, 1), 1);
        CHECK.taken(shut, "firstShut(65536, 200)", shut.firstShut(65536, 200), 1);
        CHECK.taken(shut, "firstShut(0, 0), there is none", shut.firstShut(0, 0), -2);
        WaxTurns open = byTurns(0);
        CHECK.taken(open, "firstShut(0, 200)", open.firstShut(0, 200), -2);
        WaxTurns x = byTurns(25);
        CHECK.taken(x, "firstShut(0, 1)", x.firstShut(0, 1), -2);
        CHECK.taken(x, "firstShut(0, 2), the n-th", x.firstShut(0, 2), 2);
        // By shut 1 alone a draw of 0 in a hundred is: the SEED that first draws one as the 200th.
        WaxTurns one = byTurns(1);
        int seed = firstDrawingAt200();
        CHECK.taken(one, "firstShut(" + seed + ", 199)", one.firstShut(seed, 199), -2);
        CHECK.taken(one, "firstShut(" + seed + ", 200)", one.firstShut(seed, 200), 200);
        CHECK.sentence(50, "NONE: 1 (no GALLERY); 2.");
        for (int n : NO_DRAWS) {
            CHECK.refused(x, "firstShut(0, " + n + ")", x.firstShut(0, n), 2);
        }
        for (int wrong : NO_SEEDS) {
            CHECK.refused(x, "firstShut(" + wrong + ", 1)", x.firstShut(wrong, 1), 2);
            CHECK.refused(x, "firstShut(" + wrong + ", 0)", x.firstShut(wrong, 0), 2);
        }
        WaxTurns none = new WaxTurns();
        CHECK.refused(none, "firstShut(0, 0)", none.firstShut(0, 0), 1);
        CHECK.refused(none, "firstShut(-1, 201)", none.firstShut(-1, 201), 1);
    }

    private static int firstDrawingAt200() {
        for (int seed = 0; seed <= 65536; seed++) {
            long draw = seed;
            int at = 0;
            do {
                draw = (75 * draw + 74) % 65537;
                at++;
            } while (draw % 100 > 0 && at < 201);
            if (at == 200) {
                return seed;
            }
        }
        throw new IllegalStateException("no such SEED");
    }
}
