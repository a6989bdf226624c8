/** The boundaries that the promises 17 to 28 name, sentence by sentence. */
public final class MinutesEdgesTest {
    private static final Check CHECK = new Check("MinutesEdgesTest");
    private static final int[] FAR_OUT = {-1, 301, Integer.MIN_VALUE, Integer.MAX_VALUE};
    private static final int[] NO_FIGURES = {-1, 3, Integer.MIN_VALUE, Integer.MAX_VALUE};

    /** The TURNS 1, 3, 0 go round; figure 0 steps at the end of its own, in minutes 60, 120 .., the fifth time in 300. */
    private static final String SLOW = "gallery figures 7 span 20 stairs 5 shut 0;law times 2 plus 1 first 1;"
        + "figure a is 0 walks 20";

    /** The last PART of figure 1 is heard in the 300th minute, the first time. */
    private static final String HEARD_LAST = "gallery figures 9 span 19 stairs 6 shut 0;law times 5 plus 6 first 5;"
        + "figure s is 1 speaks 15;watcher a from 4 to 0";

    private MinutesEdgesTest() {
    }

    public static void main(String[] args) {
        place();
        watch();
        gone();
        stairs();
        catches();
        heard();
        allIn();
        meets();
        crowd();
        farthest();
        nearBy();
        spoken();
        CHECK.end();
    }

    /** Always figure f, of so many, in TURNS of span minutes. */
    private static String alone(int figures, int span, int stairs, int f) {
        return "gallery figures " + figures + " span " + span + " stairs " + stairs + " shut 0;law times 0 plus " + f
            + " first " + f;
    }

    private static void place() {
        CHECK.sentence(17, "Where a figure is behind n minutes (0 .. 300).");
        WaxTurns x = Check.with(SLOW);
        CHECK.taken(x, "place(0, 0)", x.place(0, 0), 0);
        CHECK.taken(x, "place(0, 59)", x.place(0, 59), 0);
        CHECK.taken(x, "place(0, 60)", x.place(0, 60), 1);
        CHECK.taken(x, "place(0, 299)", x.place(0, 299), 4);
        CHECK.taken(x, "place(0, 300)", x.place(0, 300), 5);
        CHECK.taken(x, "place(6, 300), stiff", x.place(6, 300), 6);
        x.go(60);
        CHECK.taken(x, "place(0, 0) behind 60", x.place(0, 0), 1);
        CHECK.taken(x, "place(0, 300), gone by then", x.place(0, 300), 5);
        CHECK.sentence(17, "NONE: 1; 2.");
        WaxTurns y = Check.with(Galleries.THREE);
        WaxTurns none = new WaxTurns();
        CHECK.refused(none, "place(0, 0)", none.place(0, 0), 1);
        CHECK.refused(none, "place(0, 301)", none.place(0, 301), 1);
        for (int n : FAR_OUT) {
            CHECK.refused(y, "place(0, " + n + ")", y.place(0, n), 2);
            CHECK.refused(y, "place(3, " + n + "), both", y.place(3, n), 1);
        }
        for (int f : NO_FIGURES) {
            CHECK.refused(y, "place(" + f + ", 0)", y.place(f, 0), 1);
        }
    }

    private static void watch() {
        CHECK.sentence(18, "Where a watcher is in the n-th minute (1 .. 300) from NOW on.");
        WaxTurns x = Check.with(Galleries.THREE);
        // Minutes 0, 1, 2 ..: at 1, 2, 1; the 300th is minute 299.
        CHECK.taken(x, "watch(0, 1)", x.watch(0, 1), 1);
        CHECK.taken(x, "watch(0, 2)", x.watch(0, 2), 2);
        CHECK.taken(x, "watch(0, 299)", x.watch(0, 299), 1);
        CHECK.taken(x, "watch(0, 300)", x.watch(0, 300), 2);
        x.go(1);
        CHECK.taken(x, "watch(0, 1) behind 1", x.watch(0, 1), 2);
        CHECK.taken(x, "watch(0, 300) behind 1", x.watch(0, 300), 1);
        WaxTurns far = Check.with(Galleries.SPEAKER);
        // At 0, 1, 2, 3, 2, 1 and round: minute 299 is the last of a round but one of six.
        CHECK.taken(far, "watch(0, 1)", far.watch(0, 1), 0);
        CHECK.taken(far, "watch(0, 4)", far.watch(0, 4), 3);
        CHECK.taken(far, "watch(0, 300)", far.watch(0, 300), 1);
        CHECK.sentence(18, "NONE: 1; 2.");
        CHECK.refused(x, "watch(0, 0)", x.watch(0, 0), 2);
        CHECK.refused(x, "watch(1, 0), both", x.watch(1, 0), 1);
        CHECK.refused(x, "watch(1, 1)", x.watch(1, 1), 1);
        for (int n : FAR_OUT) {
            CHECK.refused(x, "watch(0, " + n + ")", x.watch(0, n), 2);
            CHECK.refused(x, "watch(1, " + n + "), both", x.watch(1, n), 1);
        }
        for (int w : NO_FIGURES) {
            CHECK.refused(x, "watch(" + w + ", 1)", x.watch(w, 1), 1);
        }
        WaxTurns without = Check.with(Galleries.SETTLING);
        CHECK.refused(without, "watch(0, 1), there is none", without.watch(0, 1), 1);
        WaxTurns none = new WaxTurns();
        CHECK.refused(none, "watch(0, 1)", none.watch(0, 1), 1);
        CHECK.refused(none, "watch(0, 0)", none.watch(0, 0), 1);
    }

    private static void gone() {
        CHECK.sentence(19, "Figures that are GONE behind n minutes (0 .. 300), as bits.");
        WaxTurns x = Check.with(SLOW);
        CHECK.taken(x, "gone(0)", x.gone(0), 0);
        CHECK.taken(x, "gone(299)", x.gone(299), 0);
        CHECK.taken(x, "gone(300)", x.gone(300), 1);
        WaxTurns all = Check.with("gallery figures 2 span 1 stairs 1 shut 0;law times 1 plus 1 first 0;"
            + "figure a is 0 walks 1;figure b is 1 walks 1");
        CHECK.taken(all, "gone(1)", all.gone(1), 1);
        CHECK.taken(all, "gone(2), both", all.gone(2), 3);
        all.go(1);
        CHECK.taken(all, "gone(0), by ACTS", all.gone(0), 1);
        CHECK.taken(all, "gone(1), both", all.gone(1), 3);
        CHECK.sentence(19, "NONE: 1 (no GALLERY); 2.");
        for (int n : FAR_OUT) {
            CHECK.refused(x, "gone(" + n + ")", x.gone(n), 2);
        }
        WaxTurns none = new WaxTurns();
        CHECK.refused(none, "gone(0)", none.gone(0), 1);
        CHECK.refused(none, "gone(-1)", none.gone(-1), 1);
    }

    private static void stairs() {
        CHECK.sentence(20, "In which minute (1 .. 300) from NOW on one more is GONE first; -2.");
        WaxTurns first = Check.with(alone(2, 1, 1, 0) + ";figure a is 0 walks 1");
        CHECK.taken(first, "stairs(), the first", first.stairs(), 1);
        first.go(1);
        CHECK.taken(first, "stairs(), one that is gone is no more", first.stairs(), -2);
        WaxTurns last = Check.with(SLOW);
        CHECK.taken(last, "stairs(), the 300th", last.stairs(), 300);
        last.go(1);
        CHECK.taken(last, "stairs(), a minute later", last.stairs(), 299);
        // Seven minutes a TURN, its own each sixth, eight steps: minute 300, so the 301st.
        WaxTurns late = Check.with("gallery figures 9 span 7 stairs 8 shut 0;law times 2 plus 1 first 0;"
            + "figure a is 0 walks 7");
        CHECK.taken(late, "stairs(), the 301st", late.stairs(), -2);
        late.go(1);
        CHECK.taken(late, "stairs(), the 300th", late.stairs(), 300);
        WaxTurns never = Check.with(Galleries.SETTLING);
        CHECK.taken(never, "stairs(), nobody walks", never.stairs(), -2);
        CHECK.sentence(20, "NONE: 1 (no GALLERY).");
        WaxTurns none = new WaxTurns();
        CHECK.refused(none, "stairs()", none.stairs(), 1);
    }

    private static void catches() {
        CHECK.sentence(21, "How often one is CAUGHT within n minutes (0 .. 300).");
        WaxTurns x = Check.with(alone(2, 1, 1, 0) + ";figure a is 0 walks 1;watcher w from 1 to 1");
        CHECK.taken(x, "catches(0)", x.catches(0), 0);
        CHECK.taken(x, "catches(1)", x.catches(1), 1);
        CHECK.taken(x, "catches(300), each minute", x.catches(300), 300);
        x.go(60);
        CHECK.taken(x, "catches(0), those by ACTS aside", x.catches(0), 0);
        CHECK.taken(x, "catches(300), those by ACTS aside", x.catches(300), 300);
        CHECK.sentence(21, "NONE: 1 (no GALLERY); 2.");
        for (int n : FAR_OUT) {
            CHECK.refused(x, "catches(" + n + ")", x.catches(n), 2);
        }
        WaxTurns none = new WaxTurns();
        CHECK.refused(none, "catches(0)", none.catches(0), 1);
        CHECK.refused(none, "catches(301)", none.catches(301), 1);
    }

    private static void heard() {
        CHECK.sentence(22, "PARTS of a figure that are HEARD within n minutes (0 .. 300), as bits.");
        WaxTurns x = Check.with(alone(3, 20, 0, 1) + ";figure a is 1 speaks 20;watcher w from 0 to 0");
        CHECK.taken(x, "heard(1, 0)", x.heard(1, 0), 0);
        CHECK.taken(x, "heard(1, 1)", x.heard(1, 1), 1);
        CHECK.taken(x, "heard(1, 19)", x.heard(1, 19), 524287);
        CHECK.taken(x, "heard(1, 20)", x.heard(1, 20), 1048575);
        CHECK.taken(x, "heard(1, 300)", x.heard(1, 300), 1048575);
        CHECK.taken(x, "heard(0, 300), stiff", x.heard(0, 300), 0);
        x.go(19);
        CHECK.taken(x, "heard(1, 0), those by ACTS aside", x.heard(1, 0), 0);
        CHECK.taken(x, "heard(1, 1), the last of a TURN", x.heard(1, 1), 524288);
        CHECK.taken(x, "heard(1, 2), and the first of the next", x.heard(1, 2), 524289);
        CHECK.taken(x, "figure(1, 4) stays", x.figure(1, 4), 524287);
        // Minute 299 is the 15th of TURN 15: its last PART is heard then, the first time.
        WaxTurns late = Check.with(HEARD_LAST);
        CHECK.taken(late, "heard(1, 299)", late.heard(1, 299), 16383);
        CHECK.taken(late, "heard(1, 300), minute 299", late.heard(1, 300), 32767);
        CHECK.sentence(22, "NONE: 1; 2.");
        for (int n : FAR_OUT) {
            CHECK.refused(x, "heard(1, " + n + ")", x.heard(1, n), 2);
            CHECK.refused(x, "heard(3, " + n + "), both", x.heard(3, n), 1);
        }
        for (int f : NO_FIGURES) {
            CHECK.refused(x, "heard(" + f + ", 0)", x.heard(f, 0), 1);
        }
        WaxTurns none = new WaxTurns();
        CHECK.refused(none, "heard(0, 0)", none.heard(0, 0), 1);
        CHECK.refused(none, "heard(0, 301)", none.heard(0, 301), 1);
    }

    private static void allIn() {
        CHECK.sentence(23, "Within how many minutes (0 .. 300) all its PARTS are HEARD, those by ACTS, too");
        WaxTurns x = Check.with(alone(3, 2, 0, 1) + ";figure a is 1 speaks 2;watcher w from 0 to 0");
        CHECK.taken(x, "allIn(1)", x.allIn(1), 2);
        x.go(1);
        CHECK.taken(x, "allIn(1), one by ACTS", x.allIn(1), 1);
        x.go(1);
        CHECK.taken(x, "allIn(1), all by ACTS", x.allIn(1), 0);
        WaxTurns last = Check.with(HEARD_LAST);
        CHECK.taken(last, "allIn(1), the 300th", last.allIn(1), 300);
        CHECK.sentence(23, "-2 not so, or it doesn't speak.");
        WaxTurns late = Check.with("gallery figures 5 span 17 stairs 3 shut 0;law times 1 plus 1 first 3;"
            + "figure s is 0 speaks 15;figure t is 1 walks 1;watcher a from 1 to 3");
        CHECK.taken(late, "allIn(0), the 301st", late.allIn(0), -2);
        late.go(1);
        CHECK.taken(late, "allIn(0), the 300th", late.allIn(0), 300);
        CHECK.taken(late, "allIn(1), it walks", late.allIn(1), -2);
        CHECK.taken(late, "allIn(2), stiff", late.allIn(2), -2);
        WaxTurns never = Check.with(alone(3, 2, 0, 1) + ";figure a is 1 speaks 3;watcher w from 0 to 0");
        CHECK.taken(never, "allIn(1), a PART more than its TURN has minutes", never.allIn(1), -2);
        WaxTurns alone = Check.with(alone(3, 2, 0, 1) + ";figure a is 1 speaks 1");
        CHECK.taken(alone, "allIn(1), without a watcher", alone.allIn(1), -2);
        CHECK.sentence(23, "NONE: 1.");
        for (int f : NO_FIGURES) {
            CHECK.refused(x, "allIn(" + f + ")", x.allIn(f), 1);
        }
        WaxTurns none = new WaxTurns();
        CHECK.refused(none, "allIn(0)", none.allIn(0), 1);
    }

    private static void meets() {
        CHECK.sentence(24, "In which minute (1 .. 300) a watcher is first where the figure is whose TURN it is (behind "
            + "what it does; not GONE); -2.");
        WaxTurns first = Check.with(alone(3, 2, 0, 1) + ";watcher a from 1 to 1;watcher b from 0 to 2;"
            + "watcher c from 2 to 2");
        CHECK.taken(first, "meets(0)", first.meets(0), 1);
        CHECK.taken(first, "meets(1)", first.meets(1), 2);
        CHECK.taken(first, "meets(2), never", first.meets(2), -2);
        // It steps to 1, where he is, is caught, and is at 0 behind that: not met; he who is at 0 meets it.
        WaxTurns caught = Check.with(alone(3, 2, 2, 0) + ";figure a is 0 walks 1;watcher v from 1 to 1;"
            + "watcher w from 0 to 0");
        CHECK.taken(caught, "meets(0), it is caught", caught.meets(0), -2);
        CHECK.taken(caught, "meets(1), where it is put", caught.meets(1), 1);
        // It is gone in the first minute; he is at the stairs from then on.
        WaxTurns gone = Check.with(alone(2, 2, 1, 0) + ";figure a is 0 walks 1;watcher w from 0 to 1");
        CHECK.taken(gone, "meets(0), it is gone", gone.meets(0), -2);
        // It comes to 5 in minute 299, the watcher being at 6, and has its next TURN from minute 340 on.
        WaxTurns last = Check.with("gallery figures 7 span 20 stairs 6 shut 0;law times 2 plus 1 first 1;"
            + "figure a is 0 walks 20;watcher w from 5 to 6");
        last.go(40);
        CHECK.taken(last, "meets(0), the 301st", last.meets(0), -2);
        last.go(1);
        CHECK.taken(last, "meets(0), the 300th", last.meets(0), 300);
        CHECK.sentence(24, "NONE: 1.");
        for (int w : NO_FIGURES) {
            CHECK.refused(first, "meets(" + w + ")", first.meets(w), 1);
        }
        CHECK.refused(last, "meets(1)", last.meets(1), 1);
        WaxTurns without = Check.with(Galleries.SETTLING);
        CHECK.refused(without, "meets(0), there is none", without.meets(0), 1);
        WaxTurns none = new WaxTurns();
        CHECK.refused(none, "meets(0)", none.meets(0), 1);
    }

    private static void crowd() {
        CHECK.sentence(25, "The PLACE at which most figures that aren't GONE are behind n minutes (0 .. 300), the first "
            + "such.");
        // 0 comes to 1 and 2, 5 to 4 and 3, each in three minutes; 3 is the stairs.
        WaxTurns x = Check.with("gallery figures 6 span 3 stairs 3 shut 0;law times 1 plus 5 first 0;"
            + "figure a is 0 walks 1;figure b is 5 walks 1");
        CHECK.taken(x, "crowd(0), one at each", x.crowd(0), 0);
        CHECK.taken(x, "crowd(1)", x.crowd(1), 1);
        CHECK.taken(x, "crowd(2)", x.crowd(2), 2);
        CHECK.taken(x, "crowd(3), the gone aside: of 1, 2, 3, 4, 5 the first", x.crowd(3), 1);
        CHECK.taken(x, "crowd(4)", x.crowd(4), 4);
        CHECK.taken(x, "crowd(5), both are gone", x.crowd(5), 1);
        CHECK.taken(x, "crowd(300)", x.crowd(300), 1);
        WaxTurns two = Check.with("gallery figures 6 span 1 stairs 3 shut 0;law times 0 plus 5 first 0;"
            + "figure a is 0 walks 1;figure b is 5 walks 1");
        CHECK.taken(two, "crowd(2), two at 1, two at 4", two.crowd(2), 1);
        WaxTurns all = Check.with("gallery figures 2 span 1 stairs 1 shut 0;law times 1 plus 1 first 0;"
            + "figure a is 0 walks 1;figure b is 1 walks 1");
        CHECK.taken(all, "crowd(1), one is left, at 1", all.crowd(1), 1);
        CHECK.taken(all, "crowd(2), nobody anywhere: the first", all.crowd(2), 0);
        WaxTurns slow = Check.with(SLOW);
        CHECK.taken(slow, "crowd(299), at 4", slow.crowd(299), 4);
        CHECK.taken(slow, "crowd(300), gone", slow.crowd(300), 1);
        CHECK.sentence(25, "NONE: 1 (no GALLERY); 2.");
        for (int n : FAR_OUT) {
            CHECK.refused(x, "crowd(" + n + ")", x.crowd(n), 2);
        }
        WaxTurns none = new WaxTurns();
        CHECK.refused(none, "crowd(0)", none.crowd(0), 1);
        CHECK.refused(none, "crowd(301)", none.crowd(301), 1);
    }

    private static void farthest() {
        CHECK.sentence(26, "The figure farthest from its OWN PLACE behind n minutes (0 .. 300; GONE ones, too), the first "
            + "such.");
        WaxTurns x = Check.with("gallery figures 6 span 1 stairs 3 shut 0;law times 0 plus 5 first 1;"
            + "figure a is 1 walks 1;figure b is 5 walks 1");
        CHECK.taken(x, "farthest(0), none is away", x.farthest(0), 0);
        CHECK.taken(x, "farthest(1)", x.farthest(1), 1);
        CHECK.taken(x, "farthest(2), each a PLACE away", x.farthest(2), 1);
        CHECK.taken(x, "farthest(3), 5 is gone, two away", x.farthest(3), 5);
        CHECK.taken(x, "farthest(300)", x.farthest(300), 5);
        WaxTurns slow = Check.with(SLOW + ";figure b is 3 walks 20");
        // 3 comes to 4 in minute 40 and is gone, two away, in minute 100; 0 is two away in minute 120, three in 180.
        CHECK.taken(slow, "farthest(100)", slow.farthest(100), 3);
        CHECK.taken(slow, "farthest(119)", slow.farthest(119), 3);
        CHECK.taken(slow, "farthest(120), both two", slow.farthest(120), 0);
        WaxTurns late = Check.with(SLOW);
        CHECK.taken(late, "farthest(59)", late.farthest(59), 0);
        late.go(60);
        CHECK.taken(late, "farthest(0)", late.farthest(0), 0);
        CHECK.sentence(26, "NONE: 1 (no GALLERY); 2.");
        for (int n : FAR_OUT) {
            CHECK.refused(x, "farthest(" + n + ")", x.farthest(n), 2);
        }
        WaxTurns none = new WaxTurns();
        CHECK.refused(none, "farthest(0)", none.farthest(0), 1);
        CHECK.refused(none, "farthest(301)", none.farthest(301), 1);
    }

    private static void nearBy() {
        CHECK.sentence(27, "In how many of the next n minutes (0 .. 300) a watcher is at the PLACE at which a figure, not "
            + "GONE, is behind that minute.");
        WaxTurns x = Check.with(alone(3, 2, 0, 1) + ";watcher a from 1 to 1;watcher b from 1 to 2");
        CHECK.taken(x, "nearBy(1, 0)", x.nearBy(1, 0), 0);
        CHECK.taken(x, "nearBy(1, 1), two watchers, one minute", x.nearBy(1, 1), 1);
        CHECK.taken(x, "nearBy(1, 300)", x.nearBy(1, 300), 300);
        CHECK.taken(x, "nearBy(2, 300), each second one, not its TURN", x.nearBy(2, 300), 150);
        CHECK.taken(x, "nearBy(2, 299)", x.nearBy(2, 299), 149);
        CHECK.taken(x, "nearBy(0, 300)", x.nearBy(0, 300), 0);
        x.go(1);
        CHECK.taken(x, "nearBy(2, 1) behind 1", x.nearBy(2, 1), 1);
        // It is caught at 1 and is at 0 behind that minute.
        WaxTurns caught = Check.with(alone(3, 2, 2, 0) + ";figure a is 0 walks 1;watcher w from 1 to 1");
        CHECK.taken(caught, "nearBy(0, 300), caught", caught.nearBy(0, 300), 0);
        WaxTurns gone = Check.with(alone(2, 2, 1, 0) + ";figure a is 0 walks 1;watcher w from 0 to 1");
        CHECK.taken(gone, "nearBy(0, 300), gone", gone.nearBy(0, 300), 0);
        CHECK.sentence(27, "NONE: 1; 2.");
        for (int n : FAR_OUT) {
            CHECK.refused(x, "nearBy(0, " + n + ")", x.nearBy(0, n), 2);
            CHECK.refused(x, "nearBy(3, " + n + "), both", x.nearBy(3, n), 1);
        }
        for (int f : NO_FIGURES) {
            CHECK.refused(x, "nearBy(" + f + ", 0)", x.nearBy(f, 0), 1);
        }
        WaxTurns none = new WaxTurns();
        CHECK.refused(none, "nearBy(0, 0)", none.nearBy(0, 0), 1);
        CHECK.refused(none, "nearBy(0, 301)", none.nearBy(0, 301), 1);
    }

    private static void spoken() {
        CHECK.sentence(28, "PARTS that a figure says within n minutes (0 .. 300), HEARD or not, as bits.");
        WaxTurns x = Check.with(alone(3, 20, 0, 1) + ";figure a is 1 speaks 20;figure b is 2 walks 1");
        CHECK.taken(x, "spoken(1, 0)", x.spoken(1, 0), 0);
        CHECK.taken(x, "spoken(1, 1)", x.spoken(1, 1), 1);
        CHECK.taken(x, "spoken(1, 20)", x.spoken(1, 20), 1048575);
        CHECK.taken(x, "spoken(1, 300)", x.spoken(1, 300), 1048575);
        CHECK.taken(x, "spoken(0, 300), stiff", x.spoken(0, 300), 0);
        CHECK.taken(x, "spoken(2, 300), it walks", x.spoken(2, 300), 0);
        WaxTurns stiff = Check.with(alone(3, 3, 0, 1) + ";figure b is 2 walks 1");
        CHECK.taken(stiff, "spoken(1, 300), stiff in its own TURN", stiff.spoken(1, 300), 0);
        stiff.wind(2);
        CHECK.taken(stiff, "spoken(2, 1), walking in its own TURN", stiff.spoken(2, 1), 0);
        x.go(19);
        CHECK.taken(x, "spoken(1, 1), the last of a TURN", x.spoken(1, 1), 524288);
        CHECK.taken(x, "spoken(1, 2), and the first of the next", x.spoken(1, 2), 524289);
        WaxTurns fewer = Check.with(alone(3, 3, 0, 1) + ";figure a is 1 speaks 2");
        CHECK.taken(fewer, "spoken(1, 300), as far as it has some", fewer.spoken(1, 300), 3);
        WaxTurns more = Check.with(alone(3, 3, 0, 1) + ";figure a is 1 speaks 20");
        CHECK.taken(more, "spoken(1, 300), as far as its TURN goes", more.spoken(1, 300), 7);
        WaxTurns late = Check.with("gallery figures 5 span 13 stairs 0 shut 0;law times 1 plus 1 first 0;"
            + "figure s is 4 speaks 3");
        CHECK.taken(late, "spoken(4, 52)", late.spoken(4, 52), 0);
        CHECK.taken(late, "spoken(4, 53)", late.spoken(4, 53), 1);
        late.go(1);
        late.wind(3);
        CHECK.taken(late, "spoken(4, 13), wound up", late.spoken(4, 13), 0);
        CHECK.taken(late, "spoken(4, 14), wound up", late.spoken(4, 14), 1);
        CHECK.sentence(28, "NONE: 1; 2.");
        for (int n : FAR_OUT) {
            CHECK.refused(x, "spoken(1, " + n + ")", x.spoken(1, n), 2);
            CHECK.refused(x, "spoken(3, " + n + "), both", x.spoken(3, n), 1);
        }
        for (int f : NO_FIGURES) {
            CHECK.refused(x, "spoken(" + f + ", 0)", x.spoken(f, 0), 1);
        }
        WaxTurns none = new WaxTurns();
        CHECK.refused(none, "spoken(0, 0)", none.spoken(0, 0), 1);
        CHECK.refused(none, "spoken(0, 301)", none.spoken(0, 301), 1);
    }
}
