/** The boundaries that the promises 11 to 16 name, sentence by sentence. */
public final class TurnsEdgesTest {
    private static final Check CHECK = new Check("TurnsEdgesTest");
    private static final int[] FAR_OUT = {-1, Integer.MIN_VALUE, Integer.MAX_VALUE};

    private TurnsEdgesTest() {
    }

    public static void main(String[] args) {
        turnOf();
        turnIn();
        settles();
        round();
        called();
        minutesOf();
        CHECK.end();
    }

    private static WaxTurns law(int figures, int span, int times, int plus, int first) {
        return Check.with("gallery figures " + figures + " span " + span + " stairs 0 shut 0;law times " + times
            + " plus " + plus + " first " + first);
    }

    private static void turnOf() {
        CHECK.sentence(11, "Whose TURN the n-th is from NOW on (0 .. 2,000,000,000; 0 that of the next minute)");
        // 0, 2, 4, 1, 3 go round; 2,000,000,000 is so many times 5.
        WaxTurns x = law(5, 4, 1, 2, 0);
        CHECK.taken(x, "turnOf(0)", x.turnOf(0), 0);
        CHECK.taken(x, "turnOf(1)", x.turnOf(1), 2);
        CHECK.taken(x, "turnOf(1999999999)", x.turnOf(1999999999), 3);
        CHECK.taken(x, "turnOf(2000000000)", x.turnOf(2000000000), 0);
        x.go(3);
        CHECK.taken(x, "turnOf(0) in a TURN's last minute", x.turnOf(0), 0);
        x.go(1);
        CHECK.taken(x, "turnOf(0) behind that", x.turnOf(0), 2);
        CHECK.taken(x, "turnOf(2000000000) behind that", x.turnOf(2000000000), 2);
        // Of 7: 1, 3, 2, 6, 4, 5 by times 3; 2,000,000,000 leaves 2 by 6.
        WaxTurns seven = law(7, 1, 3, 0, 1);
        CHECK.taken(seven, "turnOf(2000000000) of 7", seven.turnOf(2000000000), 2);
        CHECK.taken(seven, "turnOf(1999999998) of 7", seven.turnOf(1999999998), 1);
        // Of 9, times 8 plus 8: 8, 0, 8, 0.
        WaxTurns nine = law(9, 20, 8, 8, 8);
        CHECK.taken(nine, "turnOf(2000000000) of 9", nine.turnOf(2000000000), 8);
        CHECK.taken(nine, "turnOf(1999999999) of 9", nine.turnOf(1999999999), 0);
        CHECK.sentence(11, "NONE: 1 (no GALLERY); 2.");
        CHECK.refused(x, "turnOf(2000000001)", x.turnOf(2000000001), 2);
        for (int wrong : FAR_OUT) {
            CHECK.refused(x, "turnOf(" + wrong + ")", x.turnOf(wrong), 2);
        }
        WaxTurns none = new WaxTurns();
        CHECK.refused(none, "turnOf(0)", none.turnOf(0), 1);
        CHECK.refused(none, "turnOf(-1), both", none.turnOf(-1), 1);
    }

    private static void turnIn() {
        CHECK.sentence(12, "The first of them (0 ..) that is a figure's; -2 never.");
        WaxTurns x = law(9, 1, 1, 1, 0);
        CHECK.taken(x, "turnIn(0)", x.turnIn(0), 0);
        CHECK.taken(x, "turnIn(8), the last of all", x.turnIn(8), 8);
        x.go(1);
        CHECK.taken(x, "turnIn(0), round again", x.turnIn(0), 8);
        WaxTurns same = law(2, 3, 1, 0, 1);
        CHECK.taken(same, "turnIn(1)", same.turnIn(1), 0);
        CHECK.taken(same, "turnIn(0), never", same.turnIn(0), -2);
        // 2, 3, 3 ..: the first one comes no more once it is over.
        WaxTurns over = Check.with(Galleries.SETTLING);
        CHECK.taken(over, "turnIn(2)", over.turnIn(2), 0);
        over.go(1);
        CHECK.taken(over, "turnIn(2), over", over.turnIn(2), -2);
        CHECK.sentence(12, "NONE: 1.");
        CHECK.refused(x, "turnIn(9)", x.turnIn(9), 1);
        CHECK.refused(same, "turnIn(2)", same.turnIn(2), 1);
        for (int wrong : FAR_OUT) {
            CHECK.refused(x, "turnIn(" + wrong + ")", x.turnIn(wrong), 1);
        }
        WaxTurns none = new WaxTurns();
        CHECK.refused(none, "turnIn(0)", none.turnIn(0), 1);
    }

    private static void settles() {
        CHECK.sentence(13, "From which of them on they come again, all of them, in that order, first.");
        WaxTurns at0 = law(9, 1, 1, 1, 4);
        CHECK.taken(at0, "settles(), all go round", at0.settles(), 0);
        WaxTurns fixed = law(9, 1, 0, 5, 5);
        CHECK.taken(fixed, "settles(), one for ever", fixed.settles(), 0);
        WaxTurns at1 = law(9, 1, 0, 5, 4);
        CHECK.taken(at1, "settles(), one behind the first", at1.settles(), 1);
        // Of 8: 1, 2, 4, 0, 0.
        WaxTurns at3 = law(8, 2, 2, 0, 1);
        CHECK.taken(at3, "settles(), the latest there is", at3.settles(), 3);
        at3.go(2);
        CHECK.taken(at3, "settles(), a TURN later", at3.settles(), 2);
        at3.go(3);
        CHECK.taken(at3, "settles(), within a TURN", at3.settles(), 1);
        at3.go(1);
        CHECK.taken(at3, "settles(), there", at3.settles(), 0);
        // Of 6, times 2: 1, 2, 4, 2, 4: a round of two behind one.
        WaxTurns six = law(6, 1, 2, 0, 1);
        CHECK.taken(six, "settles() of 6", six.settles(), 1);
        CHECK.sentence(13, "NONE: 1 (no GALLERY).");
        WaxTurns none = new WaxTurns();
        CHECK.refused(none, "settles()", none.settles(), 1);
    }

    private static void round() {
        CHECK.sentence(14, "The least number of TURNS behind which they do.");
        WaxTurns all = law(9, 1, 1, 1, 4);
        CHECK.taken(all, "round(), all", all.round(), 9);
        WaxTurns two = law(2, 1, 1, 1, 0);
        CHECK.taken(two, "round() of 2", two.round(), 2);
        WaxTurns one = law(9, 1, 0, 5, 4);
        CHECK.taken(one, "round(), one for ever", one.round(), 1);
        WaxTurns six = law(6, 1, 2, 0, 1);
        CHECK.taken(six, "round() of 6", six.round(), 2);
        // Of 9, times 1 plus 3: 0, 3, 6.
        WaxTurns three = law(9, 1, 1, 3, 0);
        CHECK.taken(three, "round(), the least, not 9", three.round(), 3);
        CHECK.sentence(14, "NONE: 1 (no GALLERY).");
        WaxTurns none = new WaxTurns();
        CHECK.refused(none, "round()", none.round(), 1);
    }

    private static void called() {
        CHECK.sentence(15, "Figures whose TURN comes some time from NOW on, as bits.");
        WaxTurns all = law(9, 1, 1, 1, 4);
        CHECK.taken(all, "called(), all", all.called(), 511);
        WaxTurns one = law(9, 2, 0, 8, 8);
        CHECK.taken(one, "called(), one", one.called(), 256);
        WaxTurns first = law(9, 2, 0, 8, 0);
        CHECK.taken(first, "called(), with the first", first.called(), 257);
        first.go(1);
        CHECK.taken(first, "called(), its TURN goes on", first.called(), 257);
        first.go(1);
        CHECK.taken(first, "called(), its TURN is over", first.called(), 256);
        CHECK.sentence(15, "NONE: 1 (no GALLERY).");
        WaxTurns none = new WaxTurns();
        CHECK.refused(none, "called()", none.called(), 1);
    }

    private static void minutesOf() {
        CHECK.sentence(16, "Of how many minutes the next n (0 .. 999) are of a figure's TURNS.");
        WaxTurns x = law(2, 20, 1, 1, 0);
        CHECK.taken(x, "minutesOf(0, 0)", x.minutesOf(0, 0), 0);
        CHECK.taken(x, "minutesOf(0, 1)", x.minutesOf(0, 1), 1);
        CHECK.taken(x, "minutesOf(0, 20)", x.minutesOf(0, 20), 20);
        CHECK.taken(x, "minutesOf(0, 21)", x.minutesOf(0, 21), 20);
        CHECK.taken(x, "minutesOf(1, 20)", x.minutesOf(1, 20), 0);
        CHECK.taken(x, "minutesOf(1, 21)", x.minutesOf(1, 21), 1);
        CHECK.taken(x, "minutesOf(0, 999)", x.minutesOf(0, 999), 500);
        CHECK.taken(x, "minutesOf(1, 999)", x.minutesOf(1, 999), 499);
        x.go(19);
        CHECK.taken(x, "minutesOf(0, 21), one is left", x.minutesOf(0, 21), 1);
        CHECK.taken(x, "minutesOf(0, 22)", x.minutesOf(0, 22), 2);
        CHECK.sentence(16, "NONE: 1; 2.");
        CHECK.refused(x, "minutesOf(2, 5)", x.minutesOf(2, 5), 1);
        CHECK.refused(x, "minutesOf(0, 1000)", x.minutesOf(0, 1000), 2);
        CHECK.refused(x, "minutesOf(2, 1000), both", x.minutesOf(2, 1000), 1);
        for (int wrong : FAR_OUT) {
            CHECK.refused(x, "minutesOf(" + wrong + ", 5)", x.minutesOf(wrong, 5), 1);
            CHECK.refused(x, "minutesOf(0, " + wrong + ")", x.minutesOf(0, wrong), 2);
            CHECK.refused(x, "minutesOf(" + wrong + ", " + wrong + ")", x.minutesOf(wrong, wrong), 1);
        }
        WaxTurns none = new WaxTurns();
        CHECK.refused(none, "minutesOf(0, 0)", none.minutesOf(0, 0), 1);
        CHECK.refused(none, "minutesOf(0, 1000)", none.minutesOf(0, 1000), 1);
    }
}
