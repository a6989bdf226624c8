/** The boundaries that the terms (III: FITS, LOOK) and the promises 35 to 43 name, sentence by sentence. */
public final class LawsEdgesTest {
    private static final int TERMS = Document.TERMS;
    private static final Check CHECK = new Check("LawsEdgesTest");
    private static final int[] FAR_OUT = {-1, 1000, Integer.MIN_VALUE, Integer.MAX_VALUE};
    private static final String TWO = "gallery figures 2 span 1 stairs 0 shut 0;law times 0 plus 0 first 0";
    private static final String THREE = "gallery figures 3 span 20 stairs 0 shut 0;law times 0 plus 0 first 0";
    private static final String NINE = "gallery figures 9 span 20 stairs 0 shut 0;law times 8 plus 8 first 8";
    private static final String NO_FITS = TWO + ";seen 0 at 0;seen 1 at 1;seen 0 at 2;seen 0 at 3";

    private LawsEdgesTest() {
    }

    public static void main(String[] args) {
        fitsTerms();
        lookTerms();
        fits();
        fitAt();
        could();
        aliveBy();
        look();
        lawsLike();
        lawFor();
        judge();
        CHECK.end();
    }

    private static void dueFits(WaxTurns x, int... numbers) {
        CHECK.taken(x, "fits()", x.fits(), numbers.length);
        for (int i = 0; i < numbers.length; i++) {
            CHECK.taken(x, "fitAt(" + i + ")", x.fitAt(i), numbers[i]);
        }
        CHECK.refused(x, "fitAt(" + numbers.length + ")", x.fitAt(numbers.length), 1);
    }

    // ---- terms, III

    private static void fitsTerms() {
        CHECK.sentence(TERMS, "laws (times, plus, first) by which each one seen was alive at its minute, from the beginning "
            + "on: all such, by 100 times the one, 10 times the other, and first");
        WaxTurns all = Check.with(TWO);
        dueFits(all, 0, 1, 10, 11, 100, 101, 110, 111);
        WaxTurns first = Check.with(TWO + ";seen 1 at 0");
        dueFits(first, 1, 11, 101, 111);
        // 1, 0 by 0 times plus 0, and by 1 times plus 1.
        WaxTurns second = Check.with(TWO + ";seen 1 at 0;seen 0 at 1");
        dueFits(second, 1, 111);
        WaxTurns one = Check.with(TWO + ";seen 1 at 0;seen 0 at 1;seen 1 at 2");
        dueFits(one, 111);
        dueFits(Check.with(NO_FITS));
        // The TURN of the last minute seen: minute 999 is of TURN 999, and odd.
        WaxTurns last = Check.with(TWO + ";seen 1 at 999;seen 0 at 0");
        dueFits(last, 10, 110);
        // Minutes 19 and 20 are of two TURNS, 0 and 19 of one.
        dueFits(Check.with(THREE + ";seen 0 at 0;seen 1 at 19"));
        WaxTurns turns = Check.with(THREE + ";seen 0 at 19;seen 1 at 20;seen 0 at 40");
        // 0, 1, 0: plus 1, and times less 1, by which 1 becomes 0.
        dueFits(turns, 210);
        dueFits(Check.with(Galleries.FIVE), 120, 201, 333, 414);
        dueFits(Check.with(NINE + ";seen 8 at 0;seen 0 at 20;seen 8 at 40"), 888);
        all.go(1);
        all.wind(0);
        CHECK.taken(all, "fits(), whatever has been wound up", all.fits(), 8);
    }

    private static void lookTerms() {
        CHECK.sentence(TERMS, "the minute (0 .. 99) by which, it being told who is alive then, at most fewest FITS are left, "
            + "the first such");
        // Of 8 laws minute 0 leaves 4, and no other fewer.
        WaxTurns all = Check.with(TWO);
        CHECK.taken(all, "look()", all.look(), 0);
        CHECK.taken(all, "lookLeaves()", all.lookLeaves(), 4);
        // 1, 0 by the laws 1 and 111: minute 2 tells them apart, the first such.
        WaxTurns second = Check.with(TWO + ";seen 1 at 0;seen 0 at 1");
        CHECK.taken(second, "look()", second.look(), 2);
        CHECK.taken(second, "lookLeaves()", second.lookLeaves(), 1);
        WaxTurns one = Check.with(TWO + ";seen 1 at 0;seen 0 at 1;seen 1 at 2");
        CHECK.taken(one, "look(), one is left whatever is told", one.look(), 0);
        CHECK.taken(one, "lookLeaves()", one.lookLeaves(), 1);
        // TURNS of 20: the first minute of the second one, not its last; 80 begins the last ahead of 100.
        WaxTurns span = Check.with(THREE + ";seen 0 at 0");
        CHECK.taken(span, "look()", span.look(), 20);
        CHECK.taken(span, "lookLeaves()", span.lookLeaves(), 3);
        // 81 laws with first 1: the second TURN tells each of nine sums apart, nine laws each.
        WaxTurns nine = Check.with(NINE + ";seen 1 at 0");
        CHECK.taken(nine, "look() of 81", nine.look(), 20);
        CHECK.taken(nine, "lookLeaves() of 81", nine.lookLeaves(), 9);
        lookAt99();
    }

    /** Minute 99 counts (with 11 minutes a TURN one begins there), minute 100 does not (with 20 one begins there). */
    private static void lookAt99() {
        WaxTurns last = Check.with("gallery figures 7 span 11 stairs 0 shut 0;law times 0 plus 0 first 0;seen 1 at 647;"
            + "seen 0 at 519");
        CHECK.taken(last, "look(), the last minute of all", last.look(), 99);
        CHECK.taken(last, "lookLeaves()", last.lookLeaves(), 1);
        // Minute 100 would leave one, as no minute ahead of it does.
        WaxTurns beyond = Check.with("gallery figures 5 span 20 stairs 0 shut 0;law times 0 plus 0 first 0;seen 1 at 205;"
            + "seen 3 at 478");
        CHECK.taken(beyond, "look()", beyond.look(), bestMinute(5, 20, new int[][] {{1, 205}, {3, 478}}));
        CHECK.taken(beyond, "lookLeaves()", beyond.lookLeaves(), 2);
        for (int span : new int[] {1, 2, 3, 9, 11, 14, 16, 19, 20}) {
            WaxTurns x = Check.with("gallery figures 6 span " + span + " stairs 0 shut 0;law times 1 plus 5 first 0;"
                + "seen 5 at " + 9 * span + ";seen 1 at " + 11 * span + ";seen 3 at " + 3 * span);
            int[][] seen = {{5, 9 * span}, {1, 11 * span}, {3, 3 * span}};
            CHECK.taken(x, "look() by " + span, x.look(), bestMinute(6, span, seen));
        }
    }

    /** Tries each minute and each law, step by step; -2 without FITS. */
    private static int bestMinute(int figures, int span, int[][] seen) {
        int best = -2;
        int fewest = Integer.MAX_VALUE;
        for (int minute = 0; minute <= 99; minute++) {
            int[] count = new int[figures];
            int fits = 0;
            for (int law = 0; law < figures * figures * figures; law++) {
                int times = law / figures / figures;
                int plus = law / figures % figures;
                int first = law % figures;
                boolean fit = true;
                for (int[] one : seen) {
                    fit &= aliveAt(figures, span, times, plus, first, one[1]) == one[0];
                }
                if (fit) {
                    fits++;
                    count[aliveAt(figures, span, times, plus, first, minute)]++;
                }
            }
            int most = 0;
            for (int one : count) {
                most = Math.max(most, one);
            }
            if (fits > 0 && most < fewest) {
                fewest = most;
                best = minute;
            }
        }
        return best;
    }

    private static int aliveAt(int figures, int span, int times, int plus, int first, int minute) {
        int who = first;
        for (int m = 1; m <= minute; m++) {
            who = m % span == 0 ? (who * times + plus) % figures : who;
        }
        return who;
    }

    // ---- promises 35 to 43

    private static void fits() {
        CHECK.sentence(35, "FITS: how many. NONE: 1 (no GALLERY).");
        WaxTurns all = Check.with(NINE);
        CHECK.taken(all, "fits(), the most there are", all.fits(), 729);
        WaxTurns no = Check.with(NO_FITS);
        CHECK.taken(no, "fits(), the fewest", no.fits(), 0);
        WaxTurns none = new WaxTurns();
        CHECK.refused(none, "fits()", none.fits(), 1);
    }

    private static void fitAt() {
        CHECK.sentence(36, "The i-th: its number. NONE: 1 (i, too).");
        WaxTurns all = Check.with(NINE);
        CHECK.taken(all, "fitAt(0)", all.fitAt(0), 0);
        CHECK.taken(all, "fitAt(8)", all.fitAt(8), 8);
        CHECK.taken(all, "fitAt(9)", all.fitAt(9), 10);
        CHECK.taken(all, "fitAt(81)", all.fitAt(81), 100);
        CHECK.taken(all, "fitAt(728)", all.fitAt(728), 888);
        CHECK.refused(all, "fitAt(729)", all.fitAt(729), 1);
        for (int i : FAR_OUT) {
            CHECK.refused(all, "fitAt(" + i + ")", all.fitAt(i), 1);
        }
        WaxTurns no = Check.with(NO_FITS);
        CHECK.refused(no, "fitAt(0), there is none", no.fitAt(0), 1);
        WaxTurns none = new WaxTurns();
        CHECK.refused(none, "fitAt(0)", none.fitAt(0), 1);
        CHECK.refused(none, "fitAt(-1)", none.fitAt(-1), 1);
    }

    private static void could() {
        CHECK.sentence(37, "Who can be alive at a minute (0 .. 999) from the beginning on by some, as bits.");
        WaxTurns all = Check.with(NINE);
        CHECK.taken(all, "could(0)", all.could(0), 511);
        CHECK.taken(all, "could(999)", all.could(999), 511);
        // 0, 1, 0: only the law 110.
        WaxTurns one = Check.with(TWO + ";seen 0 at 0;seen 1 at 1;seen 0 at 2");
        CHECK.taken(one, "could(0)", one.could(0), 1);
        CHECK.taken(one, "could(998)", one.could(998), 1);
        CHECK.taken(one, "could(999)", one.could(999), 2);
        one.go(1);
        CHECK.taken(one, "could(0), from the beginning on", one.could(0), 1);
        WaxTurns no = Check.with(NO_FITS);
        CHECK.taken(no, "could(0), by none", no.could(0), 0);
        CHECK.sentence(37, "NONE: 1 (no GALLERY); 2.");
        for (int minute : FAR_OUT) {
            CHECK.refused(all, "could(" + minute + ")", all.could(minute), 2);
        }
        WaxTurns none = new WaxTurns();
        CHECK.refused(none, "could(0)", none.could(0), 1);
        CHECK.refused(none, "could(1000)", none.could(1000), 1);
    }

    private static void aliveBy() {
        CHECK.sentence(38, "By how many of them a figure is alive then. NONE: 1; 2.");
        WaxTurns all = Check.with(NINE);
        CHECK.taken(all, "aliveBy(0, 0)", all.aliveBy(0, 0), 81);
        CHECK.taken(all, "aliveBy(8, 19)", all.aliveBy(8, 19), 81);
        WaxTurns one = Check.with(TWO + ";seen 0 at 0;seen 1 at 1;seen 0 at 2");
        CHECK.taken(one, "aliveBy(1, 999)", one.aliveBy(1, 999), 1);
        CHECK.taken(one, "aliveBy(0, 999)", one.aliveBy(0, 999), 0);
        CHECK.taken(one, "aliveBy(0, 0)", one.aliveBy(0, 0), 1);
        WaxTurns no = Check.with(NO_FITS);
        CHECK.taken(no, "aliveBy(0, 0), by none", no.aliveBy(0, 0), 0);
        for (int minute : FAR_OUT) {
            CHECK.refused(one, "aliveBy(0, " + minute + ")", one.aliveBy(0, minute), 2);
            CHECK.refused(one, "aliveBy(2, " + minute + "), both", one.aliveBy(2, minute), 1);
        }
        for (int f : new int[] {-1, 2, Integer.MIN_VALUE, Integer.MAX_VALUE}) {
            CHECK.refused(one, "aliveBy(" + f + ", 0)", one.aliveBy(f, 0), 1);
        }
        WaxTurns none = new WaxTurns();
        CHECK.refused(none, "aliveBy(0, 0)", none.aliveBy(0, 0), 1);
        CHECK.refused(none, "aliveBy(0, 1000)", none.aliveBy(0, 1000), 1);
    }

    private static void look() {
        CHECK.sentence(39, "LOOK; -2 no FITS. NONE: 1 (no GALLERY).");
        WaxTurns all = Check.with(NINE);
        CHECK.taken(all, "look()", all.look(), 0);
        WaxTurns no = Check.with(NO_FITS);
        CHECK.taken(no, "look()", no.look(), -2);
        WaxTurns none = new WaxTurns();
        CHECK.refused(none, "look()", none.look(), 1);
        CHECK.sentence(40, "How many are left at most then; -2 likewise. NONE: 1 (no GALLERY).");
        CHECK.taken(all, "lookLeaves()", all.lookLeaves(), 81);
        WaxTurns one = Check.with(TWO + ";seen 0 at 0;seen 1 at 1;seen 0 at 2");
        CHECK.taken(one, "lookLeaves(), the one", one.lookLeaves(), 1);
        CHECK.taken(no, "lookLeaves()", no.lookLeaves(), -2);
        CHECK.refused(none, "lookLeaves()", none.lookLeaves(), 1);
        // What one GALLERY was found to be is not the next one's.
        Check.tell(no, TWO);
        CHECK.taken(no, "look(), a new GALLERY", no.look(), 0);
        CHECK.taken(no, "lookLeaves(), a new GALLERY", no.lookLeaves(), 4);
        Check.tell(no, TWO);
        CHECK.taken(no, "lookLeaves(), the same once more", no.lookLeaves(), 4);
        Check.tell(no, NO_FITS);
        CHECK.taken(no, "lookLeaves(), none again", no.lookLeaves(), -2);
    }

    private static void lawsLike() {
        CHECK.sentence(41, "How many laws (itself, too) give the same TURNS from the beginning on, for ever, as the law as "
            + "told.");
        WaxTurns itself = Check.with("gallery figures 9 span 1 stairs 0 shut 0;law times 1 plus 1 first 0");
        CHECK.taken(itself, "lawsLike(), itself alone", itself.lawsLike(), 1);
        // 0 for ever: plus 0, times whatever.
        WaxTurns zero = Check.with("gallery figures 9 span 1 stairs 0 shut 0;law times 8 plus 0 first 0");
        CHECK.taken(zero, "lawsLike(), one for each times", zero.lawsLike(), 9);
        // 0, 3, 6, 0 of 9: times 1, 4, 7 plus 3.
        WaxTurns three = Check.with("gallery figures 9 span 1 stairs 0 shut 0;law times 1 plus 3 first 0");
        CHECK.taken(three, "lawsLike(), 0, 3, 6", three.lawsLike(), 3);
        // 1, 2, 4, 0, 0 of 8: times 2 plus 0 alone goes so.
        // 1 for ever: times and plus are 1 together, or 4.
        WaxTurns fixed = Check.with("gallery figures 3 span 1 stairs 0 shut 0;law times 2 plus 2 first 1");
        CHECK.taken(fixed, "lawsLike(), 0 and 1, 1 and 0, 2 and 2", fixed.lawsLike(), 3);
        WaxTurns late = Check.with("gallery figures 8 span 1 stairs 0 shut 0;law times 2 plus 0 first 1");
        CHECK.taken(late, "lawsLike(), for ever", late.lawsLike(), 1);
        zero.wind(3);
        CHECK.taken(zero, "lawsLike(), from the beginning on", zero.lawsLike(), 9);
        // Alike for two TURNS, and no longer: 0, 1, then 1 or 0.
        WaxTurns two = Check.with("gallery figures 2 span 1 stairs 0 shut 0;law times 0 plus 1 first 0");
        CHECK.taken(two, "lawsLike(), 0, 1, 1", two.lawsLike(), 1);
        WaxTurns same = Check.with("gallery figures 2 span 1 stairs 0 shut 0;law times 0 plus 1 first 1");
        CHECK.taken(same, "lawsLike(), 1 for ever: 0 and 1, 1 and 0", same.lawsLike(), 2);
        CHECK.sentence(41, "NONE: 1 (no GALLERY).");
        WaxTurns none = new WaxTurns();
        CHECK.refused(none, "lawsLike()", none.lawsLike(), 1);
    }

    private static void lawFor() {
        CHECK.sentence(42, "The least number of a law by which the n-th TURN (0 .. 99) from the beginning on is a figure's.");
        WaxTurns x = Check.with(NINE);
        for (int f = 0; f < 9; f++) {
            CHECK.taken(x, "lawFor(" + f + ", 0)", x.lawFor(f, 0), f);
            CHECK.taken(x, "lawFor(" + f + ", 1)", x.lawFor(f, 1), 10 * f);
            CHECK.taken(x, "lawFor(" + f + ", 99)", x.lawFor(f, 99), 10 * f);
        }
        CHECK.sentence(42, "NONE: 1; 2.");
        CHECK.refused(x, "lawFor(0, 100)", x.lawFor(0, 100), 2);
        CHECK.refused(x, "lawFor(9, 100), both", x.lawFor(9, 100), 1);
        CHECK.refused(x, "lawFor(9, 0)", x.lawFor(9, 0), 1);
        for (int wrong : new int[] {-1, Integer.MIN_VALUE, Integer.MAX_VALUE}) {
            CHECK.refused(x, "lawFor(0, " + wrong + ")", x.lawFor(0, wrong), 2);
            CHECK.refused(x, "lawFor(" + wrong + ", 0)", x.lawFor(wrong, 0), 1);
        }
        WaxTurns none = new WaxTurns();
        CHECK.refused(none, "lawFor(0, 0)", none.lawFor(0, 0), 1);
        CHECK.refused(none, "lawFor(0, 100)", none.lawFor(0, 100), 1);
    }

    private static void judge() {
        CHECK.sentence(43, "The first seen, as told, that isn't so by the law as told; -2.");
        String law = "gallery figures 2 span 20 stairs 0 shut 0;law times 1 plus 1 first 0";
        judged(law, -2);
        judged(law + ";seen 0 at 0", -2);
        judged(law + ";seen 0 at 19", -2);
        judged(law + ";seen 1 at 19", 0);
        judged(law + ";seen 1 at 20", -2);
        judged(law + ";seen 1 at 999;seen 0 at 980", 1);
        judged(law + ";seen 1 at 39;seen 0 at 40;seen 1 at 41", 2);
        judged(law + ";seen 0 at 0;seen 0 at 1;seen 0 at 2;seen 0 at 3;seen 0 at 4;seen 0 at 5", -2);
        String last = "gallery figures 9 span 1 stairs 0 shut 0;law times 7 plus 6 first 5";
        judged(last, -2);
        judged(last + ";seen 5 at 0;seen 5 at 1", -2);
        judged(last + ";seen 5 at 0;seen 8 at 1", 1);
        // As told, not by minutes: the earlier minute is told later.
        judged(law + ";seen 0 at 480;seen 0 at 999;seen 1 at 0", 1);
        judged(law + ";seen 0 at 0;seen 0 at 1;seen 0 at 2;seen 0 at 3;seen 0 at 4;seen 1 at 5", 5);
        WaxTurns x = Check.with(law + ";seen 0 at 0");
        x.wind(1);
        x.go(1);
        CHECK.taken(x, "judge(), by the law, whatever was wound up", x.judge(), -2);
        CHECK.sentence(43, "NONE: 1 (no GALLERY).");
        WaxTurns none = new WaxTurns();
        CHECK.refused(none, "judge()", none.judge(), 1);
    }

    private static void judged(String text, int due) {
        WaxTurns x = Check.with(text);
        CHECK.taken(x, "judge() of " + text, x.judge(), due);
    }
}
