/** Promises 17 to 28: place, watch, gone, stairs, catches, heard, allIn, meets, crowd, farthest, nearBy, spoken. */
public final class MinutesTest {
    private static final Check CHECK = new Check("MinutesTest");

    private MinutesTest() {
    }

    public static void main(String[] args) {
        withoutGallery();
        wrongNumbers();
        walkingToTheStairs();
        caughtOnTheWay();
        ownPlaceAtTheStairs();
        slowOnes();
        watching();
        hearing();
        meeting();
        crowds();
        lastMinutes();
        nothingChanges();
        CHECK.end();
    }

    private static void withoutGallery() {
        WaxTurns x = new WaxTurns();
        CHECK.refused(x, "place", x.place(0, 301), 1);
        CHECK.refused(x, "watch", x.watch(0, 301), 1);
        CHECK.refused(x, "gone", x.gone(301), 1);
        CHECK.refused(x, "stairs", x.stairs(), 1);
        CHECK.refused(x, "catches", x.catches(301), 1);
        CHECK.refused(x, "heard", x.heard(0, 301), 1);
        CHECK.refused(x, "allIn", x.allIn(0), 1);
        CHECK.refused(x, "meets", x.meets(0), 1);
        CHECK.refused(x, "crowd", x.crowd(301), 1);
        CHECK.refused(x, "farthest", x.farthest(301), 1);
        CHECK.refused(x, "nearBy", x.nearBy(0, 301), 1);
        CHECK.refused(x, "spoken", x.spoken(0, 301), 1);
    }

    private static void wrongNumbers() {
        WaxTurns x = Check.with(Galleries.THREE);
        for (int n : new int[] {-1, 301, Integer.MIN_VALUE, Integer.MAX_VALUE}) {
            CHECK.refused(x, "place", x.place(0, n), 2);
            CHECK.refused(x, "watch", x.watch(0, n), 2);
            CHECK.refused(x, "gone", x.gone(n), 2);
            CHECK.refused(x, "catches", x.catches(n), 2);
            CHECK.refused(x, "heard", x.heard(0, n), 2);
            CHECK.refused(x, "crowd", x.crowd(n), 2);
            CHECK.refused(x, "farthest", x.farthest(n), 2);
            CHECK.refused(x, "nearBy", x.nearBy(0, n), 2);
            CHECK.refused(x, "spoken", x.spoken(0, n), 2);
        }
        CHECK.refused(x, "watch(0, 0)", x.watch(0, 0), 2);
        for (int f : new int[] {-1, 3, Integer.MIN_VALUE, Integer.MAX_VALUE}) {
            CHECK.refused(x, "place", x.place(f, 301), 1);
            CHECK.refused(x, "watch", x.watch(f, 301), 1);
            CHECK.refused(x, "heard", x.heard(f, 301), 1);
            CHECK.refused(x, "allIn", x.allIn(f), 1);
            CHECK.refused(x, "meets", x.meets(f), 1);
            CHECK.refused(x, "nearBy", x.nearBy(f, 301), 1);
            CHECK.refused(x, "spoken", x.spoken(f, 301), 1);
        }
        CHECK.refused(x, "meets(1)", x.meets(1), 1);
        CHECK.taken(x, "place(0, 300)", x.place(0, 300), 2);
        CHECK.taken(x, "watch(0, 300)", x.watch(0, 300), 2);
        CHECK.taken(x, "gone(300)", x.gone(300), 1);
        CHECK.taken(x, "catches(300)", x.catches(300), 1);
        CHECK.taken(x, "heard(0, 300)", x.heard(0, 300), 0);
        CHECK.taken(x, "crowd(300)", x.crowd(300), 1);
        CHECK.taken(x, "farthest(300)", x.farthest(300), 0);
        CHECK.taken(x, "nearBy(0, 300)", x.nearBy(0, 300), 2);
        CHECK.taken(x, "spoken(0, 300)", x.spoken(0, 300), 0);
    }

    private static void walkingToTheStairs() {
        WaxTurns x = Check.with(Galleries.THREE);
        int[] places = {0, 0, 1, 1, 1, 1, 1, 2, 2, 2};
        for (int n = 0; n < places.length; n++) {
            CHECK.taken(x, "place(0, " + n + ")", x.place(0, n), places[n]);
            CHECK.taken(x, "gone(" + n + ")", x.gone(n), n >= 7 ? 1 : 0);
            CHECK.taken(x, "catches(" + n + ")", x.catches(n), n >= 1 ? 1 : 0);
        }
        CHECK.taken(x, "stairs()", x.stairs(), 7);
        x.go(3);
        CHECK.taken(x, "stairs() from there", x.stairs(), 4);
        CHECK.taken(x, "catches(4) from there", x.catches(4), 0);
        x.go(4);
        CHECK.taken(x, "stairs(), nobody more", x.stairs(), -2);
        CHECK.taken(x, "gone(0)", x.gone(0), 1);
        // Down to the stairs at 0, two of them; the one who is gone first does not count again.
        WaxTurns y = Check.with("gallery figures 4 span 2 stairs 0 shut 0;law times 3 plus 3 first 1;"
            + "figure a is 1 walks 1;figure b is 2 walks 1");
        CHECK.taken(y, "turnOf(1)", y.turnOf(1), 2);
        CHECK.taken(y, "stairs()", y.stairs(), 1);
        CHECK.due("go(1)", y.go(1), 2);
        CHECK.taken(y, "stairs()", y.stairs(), 3);
        CHECK.taken(y, "gone(3)", y.gone(3), 6);
        WaxTurns late = Check.with("gallery figures 2 span 20 stairs 1 shut 0;law times 0 plus 0 first 0;"
            + "figure a is 1 walks 20");
        CHECK.taken(late, "stairs(), never its turn", late.stairs(), -2);
        late.wind(1);
        CHECK.taken(late, "stairs()", late.stairs(), 20);
    }

    private static void caughtOnTheWay() {
        WaxTurns x = Check.with(Galleries.FIVE);
        CHECK.taken(x, "place(1, 13)", x.place(1, 13), 2);
        CHECK.taken(x, "place(1, 14)", x.place(1, 14), 1);
        CHECK.taken(x, "place(1, 15)", x.place(1, 15), 1);
        CHECK.taken(x, "place(1, 16)", x.place(1, 16), 2);
        CHECK.taken(x, "place(2, 8)", x.place(2, 8), 2);
        CHECK.taken(x, "catches(5)", x.catches(5), 0);
        CHECK.taken(x, "catches(6)", x.catches(6), 1);
        CHECK.taken(x, "catches(16)", x.catches(16), 4);
        x.go(6);
        CHECK.taken(x, "catches(2), from there", x.catches(2), 1);
        CHECK.taken(x, "gone(300)", x.gone(300), 0);
        CHECK.taken(x, "stairs()", x.stairs(), -2);
    }

    private static void ownPlaceAtTheStairs() {
        String hall = "gallery figures 2 span 3 stairs 1 shut 0;law times 0 plus 1 first 1;figure a is 1 walks 2";
        WaxTurns x = Check.with(hall);
        CHECK.taken(x, "gone(1), it hasn't stepped", x.gone(1), 0);
        CHECK.taken(x, "gone(2), it has, and stays", x.gone(2), 2);
        CHECK.taken(x, "place(1, 2)", x.place(1, 2), 1);
        WaxTurns y = Check.with(hall + ";watcher w from 1 to 1");
        CHECK.taken(y, "gone(300), watched", y.gone(300), 0);
        CHECK.taken(y, "catches(1), it hasn't stepped", y.catches(1), 0);
        CHECK.taken(y, "catches(2)", y.catches(2), 1);
        CHECK.taken(y, "catches(4), the third minute is no second", y.catches(4), 1);
        CHECK.taken(y, "catches(5)", y.catches(5), 2);
    }

    private static void slowOnes() {
        WaxTurns x = Check.with("gallery figures 2 span 3 stairs 1 shut 0;law times 0 plus 0 first 0;"
            + "figure a is 0 walks 4");
        CHECK.taken(x, "place(0, 300), its pace is beyond its turn", x.place(0, 300), 0);
        WaxTurns y = Check.with("gallery figures 9 span 20 stairs 8 shut 0;law times 0 plus 0 first 0;"
            + "figure a is 0 walks 20");
        CHECK.taken(y, "place(0, 19)", y.place(0, 19), 0);
        CHECK.taken(y, "place(0, 20)", y.place(0, 20), 1);
        CHECK.taken(y, "place(0, 159)", y.place(0, 159), 7);
        CHECK.taken(y, "stairs()", y.stairs(), 160);
        // A step counts from the turn's beginning, which winding makes anew.
        y.go(19);
        y.wind(0);
        CHECK.taken(y, "place(0, 1)", y.place(0, 1), 0);
        CHECK.taken(y, "place(0, 20)", y.place(0, 20), 1);
    }

    private static void watching() {
        WaxTurns x = Check.with(Galleries.SPEAKER);
        int[] round = {0, 1, 2, 3, 2, 1, 0, 1, 2};
        for (int n = 1; n <= round.length; n++) {
            CHECK.taken(x, "watch(0, " + n + ")", x.watch(0, n), round[n - 1]);
        }
        CHECK.taken(x, "watch(0, 300)", x.watch(0, 300), 1);
        x.go(4);
        CHECK.taken(x, "watch(0, 1), from there", x.watch(0, 1), 2);
        CHECK.taken(x, "watch(0, 3), from there", x.watch(0, 3), 0);
        x.wind(0);
        CHECK.taken(x, "watch(0, 1), wound up", x.watch(0, 1), 2);
    }

    private static void hearing() {
        WaxTurns x = Check.with(Galleries.SPEAKER);
        CHECK.taken(x, "heard(3, 3)", x.heard(3, 3), 0);
        CHECK.taken(x, "heard(3, 4)", x.heard(3, 4), 1);
        CHECK.taken(x, "heard(3, 5)", x.heard(3, 5), 3);
        CHECK.taken(x, "heard(0, 300), stiff", x.heard(0, 300), 0);
        CHECK.taken(x, "spoken(3, 0)", x.spoken(3, 0), 0);
        CHECK.taken(x, "spoken(3, 1)", x.spoken(3, 1), 1);
        CHECK.taken(x, "spoken(3, 2)", x.spoken(3, 2), 3);
        CHECK.taken(x, "spoken(0, 300)", x.spoken(0, 300), 0);
        CHECK.taken(x, "allIn(3)", x.allIn(3), 5);
        CHECK.taken(x, "allIn(0), stiff", x.allIn(0), -2);
        x.go(4);
        CHECK.taken(x, "figure(3, 4)", x.figure(3, 4), 1);
        CHECK.taken(x, "heard(3, 0)", x.heard(3, 0), 0);
        CHECK.taken(x, "heard(3, 1), those by ACTS aside", x.heard(3, 1), 2);
        CHECK.taken(x, "spoken(3, 1)", x.spoken(3, 1), 2);
        CHECK.taken(x, "spoken(3, 2), it has no third", x.spoken(3, 2), 2);
        CHECK.taken(x, "allIn(3), those by ACTS, too", x.allIn(3), 1);
        x.go(1);
        CHECK.taken(x, "allIn(3), all by ACTS", x.allIn(3), 0);
        WaxTurns more = Check.with("gallery figures 4 span 3 stairs 0 shut 0;law times 1 plus 0 first 3;"
            + "figure s is 3 speaks 4;watcher w from 2 to 2");
        CHECK.taken(more, "allIn(3), more than its turn has minutes", more.allIn(3), -2);
        CHECK.taken(more, "spoken(3, 300)", more.spoken(3, 300), 7);
        CHECK.taken(more, "heard(3, 300)", more.heard(3, 300), 7);
        WaxTurns deaf = Check.with("gallery figures 4 span 20 stairs 0 shut 0;law times 1 plus 0 first 3;"
            + "figure s is 3 speaks 20;figure t is 0 walks 1;watcher w from 1 to 1");
        CHECK.taken(deaf, "heard(3, 300), two places away", deaf.heard(3, 300), 0);
        CHECK.taken(deaf, "spoken(3, 300)", deaf.spoken(3, 300), (1 << 20) - 1);
        CHECK.taken(deaf, "allIn(3)", deaf.allIn(3), -2);
        CHECK.taken(deaf, "allIn(0), it walks", deaf.allIn(0), -2);
        WaxTurns above = Check.with("gallery figures 4 span 20 stairs 0 shut 0;law times 1 plus 0 first 0;"
            + "figure s is 0 speaks 20;watcher w from 1 to 1");
        CHECK.taken(above, "heard(0, 20), from above", above.heard(0, 20), (1 << 20) - 1);
        CHECK.taken(above, "allIn(0)", above.allIn(0), 20);
    }

    private static void meeting() {
        WaxTurns x = Check.with(Galleries.FIVE);
        CHECK.taken(x, "meets(0)", x.meets(0), 1);
        CHECK.taken(x, "meets(1), not one who was caught there", x.meets(1), 17);
        x.go(1);
        // Minutes 1 .. 3: figure 0 is at 0, wat at 1, 2, 1; 4, 5: figure 2 at 2, wat at 0, 1; 6: at 2 both.
        CHECK.taken(x, "meets(0), from there", x.meets(0), 6);
        WaxTurns y = Check.with(Galleries.THREE);
        CHECK.taken(y, "meets(0)", y.meets(0), 3);
        y.go(7);
        // The one who is gone is at the stairs, where the watcher is in minute 7, and isn't met.
        CHECK.taken(y, "meets(0), gone", y.meets(0), 2);
        WaxTurns never = Check.with(Galleries.SETTLING + ";watcher w from 0 to 1");
        CHECK.taken(never, "meets(0), never", never.meets(0), -2);
    }

    private static void crowds() {
        WaxTurns x = Check.with(Galleries.THREE);
        CHECK.taken(x, "crowd(0)", x.crowd(0), 0);
        CHECK.taken(x, "crowd(2)", x.crowd(2), 1);
        CHECK.taken(x, "crowd(7), the gone aside", x.crowd(7), 1);
        CHECK.taken(x, "farthest(0)", x.farthest(0), 0);
        CHECK.taken(x, "farthest(7)", x.farthest(7), 0);
        CHECK.taken(x, "nearBy(0, 2)", x.nearBy(0, 2), 0);
        CHECK.taken(x, "nearBy(0, 3)", x.nearBy(0, 3), 1);
        CHECK.taken(x, "nearBy(0, 7), gone at last", x.nearBy(0, 7), 2);
        CHECK.taken(x, "nearBy(0, 8), gone, at the stairs", x.nearBy(0, 8), 2);
        CHECK.taken(x, "nearBy(2, 4)", x.nearBy(2, 4), 2);
        CHECK.taken(x, "nearBy(0, 0)", x.nearBy(0, 0), 0);
        WaxTurns y = Check.with(Galleries.FIVE);
        CHECK.taken(y, "crowd(16)", y.crowd(16), 2);
        CHECK.taken(y, "farthest(16)", y.farthest(16), 1);
        CHECK.taken(y, "farthest(14), caught again", y.farthest(14), 0);
        CHECK.taken(y, "nearBy(1, 4)", y.nearBy(1, 4), 2);
        CHECK.taken(y, "nearBy(3, 4)", y.nearBy(3, 4), 4);
        WaxTurns all = Check.with("gallery figures 2 span 1 stairs 1 shut 0;law times 1 plus 1 first 0;"
            + "figure a is 0 walks 1;figure b is 1 walks 1");
        CHECK.taken(all, "gone(2)", all.gone(2), 3);
        CHECK.taken(all, "crowd(1)", all.crowd(1), 1);
        CHECK.taken(all, "crowd(2), nobody anywhere", all.crowd(2), 0);
        // Of 0 and 4, both a place away, the first.
        WaxTurns two = Check.with("gallery figures 5 span 1 stairs 2 shut 0;law times 0 plus 4 first 0;"
            + "figure a is 0 walks 1;figure b is 4 walks 1");
        CHECK.taken(two, "farthest(2)", two.farthest(2), 0);
        CHECK.taken(two, "gone(3)", two.gone(3), 16);
        CHECK.taken(two, "farthest(3), the gone, too", two.farthest(3), 4);
    }

    /** What is so in the 300th minute is told, what is so in the 301st is not. */
    private static void lastMinutes() {
        // The turns 1, 3, 0 go round; figure 0 steps at the end of each third one, five times.
        WaxTurns x = Check.with("gallery figures 7 span 20 stairs 5 shut 0;law times 2 plus 1 first 1;"
            + "figure a is 0 walks 20");
        CHECK.taken(x, "stairs(), the 300th", x.stairs(), 300);
        // Seven minutes a turn, its own each sixth, eight steps.
        WaxTurns y = Check.with("gallery figures 9 span 7 stairs 8 shut 0;law times 2 plus 1 first 0;"
            + "figure a is 0 walks 7");
        CHECK.taken(y, "stairs(), the 301st", y.stairs(), -2);
        y.go(1);
        CHECK.taken(y, "stairs(), the 300th", y.stairs(), 300);
        // It comes to 5 in minute 299, the watcher being at 6, and has its next turn from minute 340 on.
        WaxTurns z = Check.with("gallery figures 7 span 20 stairs 6 shut 0;law times 2 plus 1 first 1;"
            + "figure a is 0 walks 20;watcher w from 5 to 6");
        z.go(40);
        CHECK.taken(z, "meets(0), the 301st", z.meets(0), -2);
        z.go(1);
        CHECK.taken(z, "meets(0), the 300th", z.meets(0), 300);
        WaxTurns s = Check.with("gallery figures 9 span 19 stairs 6 shut 0;law times 5 plus 6 first 5;"
            + "figure s is 1 speaks 15;watcher a from 4 to 0");
        CHECK.taken(s, "allIn(1), the 300th", s.allIn(1), 300);
        WaxTurns t = Check.with("gallery figures 5 span 17 stairs 3 shut 0;law times 1 plus 1 first 3;"
            + "figure s is 0 speaks 15;watcher a from 1 to 3");
        CHECK.taken(t, "allIn(0), the 301st", t.allIn(0), -2);
        t.go(1);
        CHECK.taken(t, "allIn(0), the 300th", t.allIn(0), 300);
    }

    private static void nothingChanges() {
        WaxTurns x = Check.with(Galleries.FIVE);
        x.go(3);
        x.place(1, 300);
        x.gone(300);
        x.stairs();
        x.catches(300);
        x.heard(4, 300);
        x.allIn(4);
        x.meets(1);
        x.crowd(300);
        x.farthest(300);
        x.nearBy(1, 300);
        x.spoken(4, 300);
        CHECK.due("size(10)", x.size(10), 3);
        CHECK.due("size(11)", x.size(11), 1);
        CHECK.due("caught()", x.caught(), 0);
        CHECK.due("figure(4, 4)", x.figure(4, 4), 0);
        CHECK.due("alive()", x.alive(), 0);
        CHECK.due("left()", x.left(), 1);
        for (int f = 0; f < 5; f++) {
            CHECK.due("figure(" + f + ", 2)", x.figure(f, 2), f);
        }
    }
}
