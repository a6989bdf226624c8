/** Promises 44 to 46: dares, rests, rest. */
public final class DaresTest {
    private static final Check CHECK = new Check("DaresTest");

    private DaresTest() {
    }

    public static void main(String[] args) {
        WaxTurns none = new WaxTurns();
        CHECK.due("dares, no GALLERY", none.dares(-1, true, true, true), -100);
        CHECK.due("trouble()", none.trouble(), 1);
        CHECK.refused(none, "rests(-1)", none.rests(-1), 1);
        CHECK.refused(none, "rest(10)", none.rest(10), 1);
        WaxTurns x = Check.with(Galleries.THREE);
        for (int wax = 0; wax <= 9; wax++) {
            CHECK.taken(x, "moves, turns", x.dares(wax, true, true, false), -wax);
            CHECK.taken(x, "moves, turns, his", x.dares(wax, true, true, true), 3);
            CHECK.taken(x, "moves, waits", x.dares(wax, true, false, false), 4);
            CHECK.taken(x, "moves, waits, his", x.dares(wax, true, false, true), 0);
            CHECK.taken(x, "stands, turns", x.dares(wax, false, true, false), 1);
            CHECK.taken(x, "stands, turns, his", x.dares(wax, false, true, true), -1);
            CHECK.taken(x, "stands, waits", x.dares(wax, false, false, false), 0);
            CHECK.taken(x, "stands, waits, his", x.dares(wax, false, false, true), 1);
            // Of each pair one of the two could have more alone, whatever wax is.
            CHECK.taken(x, "rests(" + wax + ")", x.rests(wax), 0);
            CHECK.taken(x, "rest(" + wax + ")", x.rest(wax), -2);
        }
        for (int wax : new int[] {-1, 10, Integer.MIN_VALUE, Integer.MAX_VALUE}) {
            CHECK.due("dares(" + wax + ")", x.dares(wax, false, false, false), -100);
            CHECK.due("trouble()", x.trouble(), 2);
            CHECK.refused(x, "rests(" + wax + ")", x.rests(wax), 2);
            CHECK.refused(x, "rest(" + wax + ")", x.rest(wax), 2);
        }
        CHECK.end();
    }
}
