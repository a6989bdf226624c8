/** Promises 11 to 16: turnOf, turnIn, settles, round, called, minutesOf. */
public final class TurnsTest {
    private static final Check CHECK = new Check("TurnsTest");

    private TurnsTest() {
    }

    public static void main(String[] args) {
        withoutGallery();
        roundOfFive();
        settling();
        windingChangesIt();
        minutes();
        CHECK.end();
    }

    private static void withoutGallery() {
        WaxTurns x = new WaxTurns();
        CHECK.refused(x, "turnOf(0)", x.turnOf(0), 1);
        CHECK.refused(x, "turnOf(-1)", x.turnOf(-1), 1);
        CHECK.refused(x, "turnIn(0)", x.turnIn(0), 1);
        CHECK.refused(x, "settles()", x.settles(), 1);
        CHECK.refused(x, "round()", x.round(), 1);
        CHECK.refused(x, "called()", x.called(), 1);
        CHECK.refused(x, "minutesOf(0, 0)", x.minutesOf(0, 0), 1);
    }

    private static void roundOfFive() {
        WaxTurns x = Check.with(Galleries.FIVE);
        int[] turns = {0, 2, 4, 1, 3};
        for (int n = 0; n < 20; n++) {
            CHECK.taken(x, "turnOf(" + n + ")", x.turnOf(n), turns[n % 5]);
        }
        CHECK.taken(x, "turnOf(1999999999)", x.turnOf(1999999999), 3);
        CHECK.taken(x, "turnOf(2000000000)", x.turnOf(2000000000), 0);
        CHECK.refused(x, "turnOf(2000000001)", x.turnOf(2000000001), 2);
        CHECK.refused(x, "turnOf(-1)", x.turnOf(-1), 2);
        for (int n = 0; n < 5; n++) {
            CHECK.taken(x, "turnIn(" + turns[n] + ")", x.turnIn(turns[n]), n);
        }
        CHECK.refused(x, "turnIn(5)", x.turnIn(5), 1);
        CHECK.refused(x, "turnIn(-1)", x.turnIn(-1), 1);
        CHECK.taken(x, "settles()", x.settles(), 0);
        CHECK.taken(x, "round()", x.round(), 5);
        CHECK.taken(x, "called()", x.called(), 31);
        x.go(7);
        CHECK.taken(x, "turnOf(0) behind 7", x.turnOf(0), 2);
        CHECK.taken(x, "turnIn(0) behind 7", x.turnIn(0), 4);
        x.go(1);
        CHECK.taken(x, "turnOf(0) behind 8", x.turnOf(0), 4);
    }

    private static void settling() {
        WaxTurns x = Check.with(Galleries.SETTLING);
        CHECK.taken(x, "settles()", x.settles(), 1);
        CHECK.taken(x, "round()", x.round(), 1);
        CHECK.taken(x, "called()", x.called(), 12);
        CHECK.taken(x, "turnIn(0)", x.turnIn(0), -2);
        CHECK.taken(x, "turnIn(2)", x.turnIn(2), 0);
        CHECK.taken(x, "turnIn(3)", x.turnIn(3), 1);
        CHECK.taken(x, "turnOf(1999999999)", x.turnOf(1999999999), 3);
        x.go(1);
        CHECK.taken(x, "settles() later", x.settles(), 0);
        CHECK.taken(x, "called() later", x.called(), 8);
        CHECK.taken(x, "turnIn(2) later", x.turnIn(2), -2);
        // 1, 3, 7, 6, 4, 0, 1 .. : times 2 plus 1 of 9.
        WaxTurns y = Check.with("gallery figures 9 span 1 stairs 0 shut 0;law times 2 plus 1 first 1");
        CHECK.taken(y, "round() of 9", y.round(), 6);
        CHECK.taken(y, "settles() of 9", y.settles(), 0);
        CHECK.taken(y, "called() of 9", y.called(), 1 + 2 + 8 + 16 + 64 + 128);
        // 1, 2, 4, 0, 0 .. : times 2 of 8.
        WaxTurns z = Check.with("gallery figures 8 span 1 stairs 0 shut 0;law times 2 plus 0 first 1");
        CHECK.taken(z, "settles() of 8", z.settles(), 3);
        CHECK.taken(z, "round() of 8", z.round(), 1);
        CHECK.taken(z, "turnOf(3) of 8", z.turnOf(3), 0);
    }

    private static void windingChangesIt() {
        WaxTurns x = Check.with(Galleries.FIVE);
        x.go(2);
        x.wind(4);
        CHECK.taken(x, "turnOf(0)", x.turnOf(0), 4);
        CHECK.taken(x, "turnOf(1)", x.turnOf(1), 1);
        CHECK.taken(x, "turnIn(2)", x.turnIn(2), 4);
        WaxTurns y = Check.with(Galleries.SETTLING);
        y.wind(0);
        CHECK.taken(y, "called()", y.called(), 9);
    }

    private static void minutes() {
        WaxTurns x = Check.with(Galleries.FIVE);
        CHECK.taken(x, "minutesOf(2, 4)", x.minutesOf(2, 4), 0);
        CHECK.taken(x, "minutesOf(2, 6)", x.minutesOf(2, 6), 2);
        CHECK.taken(x, "minutesOf(2, 8)", x.minutesOf(2, 8), 4);
        CHECK.taken(x, "minutesOf(2, 999)", x.minutesOf(2, 999), 200);
        CHECK.taken(x, "minutesOf(3, 999)", x.minutesOf(3, 999), 199);
        CHECK.taken(x, "minutesOf(0, 0)", x.minutesOf(0, 0), 0);
        CHECK.refused(x, "minutesOf(0, 1000)", x.minutesOf(0, 1000), 2);
        CHECK.refused(x, "minutesOf(0, -1)", x.minutesOf(0, -1), 2);
        CHECK.refused(x, "minutesOf(5, 1000)", x.minutesOf(5, 1000), 1);
        x.go(3);
        CHECK.taken(x, "minutesOf(0, 4), one is left", x.minutesOf(0, 4), 1);
        CHECK.taken(x, "minutesOf(2, 4)", x.minutesOf(2, 4), 3);
        WaxTurns y = Check.with(Galleries.SETTLING);
        CHECK.taken(y, "minutesOf(3, 999)", y.minutesOf(3, 999), 998);
        CHECK.taken(y, "minutesOf(2, 999)", y.minutesOf(2, 999), 1);
    }
}
