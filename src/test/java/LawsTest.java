/** Promises 35 to 43: fits, fitAt, could, aliveBy, look, lookLeaves, lawsLike, lawFor, judge. */
public final class LawsTest {
    private static final Check CHECK = new Check("LawsTest");

    private LawsTest() {
    }

    public static void main(String[] args) {
        wrongNumbers();
        fourFits();
        allFit();
        noneFits();
        looking();
        lateOnes();
        like();
        lawsFor();
        judging();
        CHECK.end();
    }

    private static void wrongNumbers() {
        WaxTurns none = new WaxTurns();
        CHECK.refused(none, "fits", none.fits(), 1);
        CHECK.refused(none, "fitAt", none.fitAt(0), 1);
        CHECK.refused(none, "could", none.could(-1), 1);
        CHECK.refused(none, "aliveBy", none.aliveBy(0, -1), 1);
        CHECK.refused(none, "look", none.look(), 1);
        CHECK.refused(none, "lookLeaves", none.lookLeaves(), 1);
        CHECK.refused(none, "lawsLike", none.lawsLike(), 1);
        CHECK.refused(none, "lawFor", none.lawFor(0, -1), 1);
        CHECK.refused(none, "judge", none.judge(), 1);
        WaxTurns x = Check.with(Galleries.FIVE);
        for (int n : new int[] {-1, 1000, Integer.MIN_VALUE, Integer.MAX_VALUE}) {
            CHECK.refused(x, "could", x.could(n), 2);
            CHECK.refused(x, "aliveBy", x.aliveBy(0, n), 2);
            CHECK.refused(x, "aliveBy", x.aliveBy(5, n), 1);
            CHECK.refused(x, "lawFor", x.lawFor(0, n), 2);
            CHECK.refused(x, "lawFor", x.lawFor(-1, n), 1);
            CHECK.refused(x, "fitAt", x.fitAt(n), 1);
        }
        CHECK.refused(x, "lawFor(0, 100)", x.lawFor(0, 100), 2);
        CHECK.refused(x, "lawFor(5, 0)", x.lawFor(5, 0), 1);
        CHECK.taken(x, "aliveBy(0, 999)", x.aliveBy(0, 999) >= 0 ? 1 : 0, 1);
    }

    private static void fourFits() {
        WaxTurns x = Check.with(Galleries.FIVE);
        int[] due = {120, 201, 333, 414};
        CHECK.taken(x, "fits()", x.fits(), 4);
        for (int i = 0; i < 4; i++) {
            CHECK.taken(x, "fitAt(" + i + ")", x.fitAt(i), due[i]);
        }
        CHECK.refused(x, "fitAt(4)", x.fitAt(4), 1);
        CHECK.taken(x, "could(0)", x.could(0), 1 + 2 + 8 + 16);
        CHECK.taken(x, "could(3)", x.could(3), 1 + 2 + 8 + 16);
        CHECK.taken(x, "could(4)", x.could(4), 4);
        CHECK.taken(x, "could(11)", x.could(11), 16);
        // Behind 4 come 1, 3, 0, 2 by the four.
        CHECK.taken(x, "could(12)", x.could(12), 1 + 2 + 4 + 8);
        CHECK.taken(x, "aliveBy(2, 4)", x.aliveBy(2, 4), 4);
        CHECK.taken(x, "aliveBy(2, 3)", x.aliveBy(2, 3), 0);
        CHECK.taken(x, "aliveBy(3, 15)", x.aliveBy(3, 15), 1);
        CHECK.taken(x, "look()", x.look(), 0);
        CHECK.taken(x, "lookLeaves()", x.lookLeaves(), 1);
        x.go(9);
        x.wind(3);
        CHECK.taken(x, "fits(), from the beginning on", x.fits(), 4);
        CHECK.taken(x, "could(0)", x.could(0), 27);
    }

    private static void allFit() {
        WaxTurns x = Check.with(Galleries.THREE);
        CHECK.taken(x, "fits()", x.fits(), 27);
        CHECK.taken(x, "fitAt(0)", x.fitAt(0), 0);
        CHECK.taken(x, "fitAt(1)", x.fitAt(1), 1);
        CHECK.taken(x, "fitAt(3)", x.fitAt(3), 10);
        CHECK.taken(x, "fitAt(26)", x.fitAt(26), 222);
        CHECK.taken(x, "could(999)", x.could(999), 7);
        WaxTurns nine = Check.with("gallery figures 9 span 1 stairs 0 shut 0;law times 0 plus 0 first 0");
        CHECK.taken(nine, "fits() of 9", nine.fits(), 729);
        CHECK.taken(nine, "fitAt(728)", nine.fitAt(728), 888);
        CHECK.refused(nine, "fitAt(729)", nine.fitAt(729), 1);
        CHECK.taken(nine, "lookLeaves() of 9", nine.lookLeaves(), 81);
    }

    private static void noneFits() {
        WaxTurns x = Check.with("gallery figures 3 span 20 stairs 0 shut 0;law times 0 plus 0 first 0;"
            + "seen 0 at 0;seen 1 at 1");
        CHECK.taken(x, "fits()", x.fits(), 0);
        CHECK.refused(x, "fitAt(0)", x.fitAt(0), 1);
        CHECK.taken(x, "could(0)", x.could(0), 0);
        CHECK.taken(x, "aliveBy(0, 0)", x.aliveBy(0, 0), 0);
        CHECK.taken(x, "look()", x.look(), -2);
        CHECK.taken(x, "lookLeaves()", x.lookLeaves(), -2);
        // Behind one without FITS the next GALLERY has its own.
        Check.tell(x, Galleries.THREE);
        CHECK.taken(x, "fits()", x.fits(), 27);
        CHECK.taken(x, "look()", x.look(), 0);
    }

    private static void looking() {
        // The first one is told; the second TURN, from minute 7 on, tells plus (0 times what is plus).
        WaxTurns x = Check.with("gallery figures 3 span 7 stairs 0 shut 0;law times 0 plus 0 first 0;seen 0 at 6");
        CHECK.taken(x, "fits()", x.fits(), 9);
        CHECK.taken(x, "look()", x.look(), 7);
        CHECK.taken(x, "lookLeaves()", x.lookLeaves(), 3);
        WaxTurns late = Check.with("gallery figures 7 span 13 stairs 0 shut 0;law times 1 plus 6 first 0;seen 6 at 104;"
            + "seen 0 at 0");
        CHECK.taken(late, "look(), the last TURN that begins ahead of minute 100", late.look(), 91);
        CHECK.taken(late, "lookLeaves()", late.lookLeaves(), 1);
        // 0, 0: only plus 0 does, and nothing tells times.
        WaxTurns y = Check.with("gallery figures 3 span 7 stairs 0 shut 0;law times 0 plus 0 first 0;seen 0 at 6;"
            + "seen 0 at 7");
        CHECK.taken(y, "fits()", y.fits(), 3);
        CHECK.taken(y, "look(), nothing helps", y.look(), 0);
        CHECK.taken(y, "lookLeaves()", y.lookLeaves(), 3);
    }

    private static void lateOnes() {
        WaxTurns x = Check.with("gallery figures 2 span 1 stairs 0 shut 0;law times 1 plus 1 first 0;"
            + "seen 1 at 999;seen 0 at 998;seen 0 at 0");
        CHECK.taken(x, "fits()", x.fits(), 1);
        CHECK.taken(x, "fitAt(0)", x.fitAt(0), 110);
        CHECK.taken(x, "judge()", x.judge(), -2);
        CHECK.taken(x, "could(997)", x.could(997), 2);
        CHECK.taken(x, "aliveBy(1, 997)", x.aliveBy(1, 997), 1);
    }

    private static void like() {
        WaxTurns x = Check.with(Galleries.FIVE);
        CHECK.taken(x, "lawsLike()", x.lawsLike(), 1);
        x.wind(3);
        CHECK.taken(x, "lawsLike(), wound up", x.lawsLike(), 1);
        WaxTurns y = Check.with("gallery figures 4 span 1 stairs 0 shut 0;law times 3 plus 0 first 0");
        CHECK.taken(y, "lawsLike(), 0 for ever", y.lawsLike(), 4);
        // 1, 3, 1 .. of 4: times 1 plus 2, times 3 plus 0.
        WaxTurns z = Check.with("gallery figures 4 span 1 stairs 0 shut 0;law times 1 plus 2 first 1");
        CHECK.taken(z, "lawsLike(), 1 and 3", z.lawsLike(), 2);
        WaxTurns s = Check.with(Galleries.SETTLING);
        CHECK.taken(s, "lawsLike(), 2, 3, 3", s.lawsLike(), 1);
    }

    private static void lawsFor() {
        WaxTurns x = Check.with(Galleries.FIVE);
        for (int f = 0; f < 5; f++) {
            CHECK.taken(x, "lawFor(" + f + ", 0)", x.lawFor(f, 0), f);
            CHECK.taken(x, "lawFor(" + f + ", 1)", x.lawFor(f, 1), 10 * f);
            CHECK.taken(x, "lawFor(" + f + ", 99)", x.lawFor(f, 99), 10 * f);
        }
    }

    private static void judging() {
        String law = "gallery figures 5 span 4 stairs 4 shut 50;law times 1 plus 2 first 0";
        judged(law, -2);
        judged(law + ";seen 0 at 0;seen 0 at 3;seen 2 at 4;seen 1 at 15;seen 3 at 999", -2);
        judged(law + ";seen 2 at 5;seen 3 at 8;seen 0 at 9", 1);
        judged(law + ";seen 0 at 9;seen 2 at 5", 0);
        judged(law + ";seen 3 at 19;seen 0 at 20;seen 1 at 995;seen 4 at 996", 3);
        judged(law + ";seen 3 at 19;seen 0 at 20;seen 3 at 996;seen 4 at 999", 3);
        WaxTurns x = Check.with(Galleries.FIVE);
        x.wind(1);
        x.go(1);
        CHECK.taken(x, "judge(), wound up", x.judge(), -2);
    }

    private static void judged(String text, int due) {
        WaxTurns x = Check.with(text);
        CHECK.taken(x, "judge() of " + text, x.judge(), due);
    }
}
