/** Promises 47 to 50: odds, mean, drawn, firstShut. */
public final class ShutTest {
    private static final Check CHECK = new Check("ShutTest");

    private ShutTest() {
    }

    public static void main(String[] args) {
        wrongNumbers();
        chances();
        edges();
        draws();
        CHECK.end();
    }

    private static String toAndFro(int shut) {
        return "gallery figures 2 span 1 stairs 0 shut " + shut + ";law times 1 plus 1 first 0";
    }

    private static void wrongNumbers() {
        WaxTurns none = new WaxTurns();
        CHECK.refused(none, "odds", none.odds(0, 9, true), 1);
        CHECK.refused(none, "mean", none.mean(0, 9, true), 1);
        CHECK.refused(none, "drawn", none.drawn(0, -1, 9), 1);
        CHECK.refused(none, "firstShut", none.firstShut(-1, 9), 1);
        WaxTurns x = Check.with(toAndFro(25));
        for (int n : new int[] {-1, 9, Integer.MIN_VALUE, Integer.MAX_VALUE}) {
            CHECK.refused(x, "odds(0, " + n + ")", x.odds(0, n, false), 2);
            CHECK.refused(x, "odds(2, " + n + ")", x.odds(2, n, true), 1);
            CHECK.refused(x, "mean(0, " + n + ")", x.mean(0, n, false), 2);
            CHECK.refused(x, "mean(-1, " + n + ")", x.mean(-1, n, true), 1);
        }
        for (int n : new int[] {-1, 201, Integer.MIN_VALUE, Integer.MAX_VALUE}) {
            CHECK.refused(x, "drawn(0, 0, " + n + ")", x.drawn(0, 0, n), 2);
            CHECK.refused(x, "drawn(2, 0, " + n + ")", x.drawn(2, 0, n), 1);
            CHECK.refused(x, "firstShut(0, " + n + ")", x.firstShut(0, n), 2);
        }
        for (int seed : new int[] {-1, 65537, Integer.MIN_VALUE, Integer.MAX_VALUE}) {
            CHECK.refused(x, "drawn(0, " + seed + ", 9)", x.drawn(0, seed, 9), 2);
            CHECK.refused(x, "drawn(-1, " + seed + ", 9)", x.drawn(-1, seed, 9), 1);
            CHECK.refused(x, "firstShut(" + seed + ", 9)", x.firstShut(seed, 9), 2);
        }
    }

    private static void chance(WaxTurns x, int f, int n, long upper, long lower) {
        CHECK.taken(x, "odds(" + f + ", " + n + ", false)", x.odds(f, n, false), upper);
        CHECK.taken(x, "odds(" + f + ", " + n + ", true)", x.odds(f, n, true), lower);
    }

    private static void average(WaxTurns x, int f, int n, long upper, long lower) {
        CHECK.taken(x, "mean(" + f + ", " + n + ", false)", x.mean(f, n, false), upper);
        CHECK.taken(x, "mean(" + f + ", " + n + ", true)", x.mean(f, n, true), lower);
    }

    private static void chances() {
        WaxTurns x = Check.with(toAndFro(25));
        chance(x, 1, 0, 0, 1);
        chance(x, 1, 1, 3, 4);
        chance(x, 0, 1, 0, 1);
        chance(x, 0, 2, 3, 4);
        chance(x, 1, 3, 15, 16);
        chance(x, 1, 8, 255, 256);
        average(x, 1, 0, 0, 1);
        average(x, 1, 1, 3, 4);
        average(x, 0, 1, 0, 1);
        average(x, 1, 3, 3, 2);
        average(x, 1, 8, 3, 1);
        x.go(1);
        chance(x, 0, 1, 3, 4);
        chance(x, 1, 1, 0, 1);
        // The TURN that goes on is aside, however much of it is left.
        WaxTurns y = Check.with(Galleries.FIVE);
        y.go(3);
        chance(y, 0, 4, 0, 1);
        chance(y, 2, 1, 1, 2);
    }

    private static void edges() {
        WaxTurns open = Check.with(toAndFro(0));
        chance(open, 1, 1, 1, 1);
        chance(open, 1, 8, 1, 1);
        average(open, 1, 8, 4, 1);
        WaxTurns shut = Check.with(toAndFro(100));
        chance(shut, 1, 8, 0, 1);
        average(shut, 1, 8, 0, 1);
        WaxTurns odd = Check.with("gallery figures 2 span 1 stairs 0 shut 33;law times 0 plus 1 first 1");
        chance(odd, 1, 8, 9998593591381759L, 10000000000000000L);
        average(odd, 1, 8, 134, 25);
        chance(odd, 0, 8, 0, 1);
        // A figure that is gone counts, as does one that is stiff.
        WaxTurns gone = Check.with("gallery figures 2 span 1 stairs 1 shut 50;law times 0 plus 1 first 1;"
            + "figure a is 1 walks 1");
        gone.go(1);
        CHECK.due("figure(1, 3)", gone.figure(1, 3), 1);
        chance(gone, 1, 2, 3, 4);
    }

    private static void draws() {
        // From 5: 449, 33749, 40843, 48597.
        WaxTurns x = Check.with(toAndFro(44));
        CHECK.taken(x, "firstShut(5, 0)", x.firstShut(5, 0), -2);
        CHECK.taken(x, "firstShut(5, 2)", x.firstShut(5, 2), -2);
        CHECK.taken(x, "firstShut(5, 3)", x.firstShut(5, 3), 3);
        CHECK.taken(x, "firstShut(5, 200)", x.firstShut(5, 200), 3);
        CHECK.taken(x, "drawn(1, 5, 4)", x.drawn(1, 5, 4), 1);
        CHECK.taken(x, "drawn(0, 5, 4)", x.drawn(0, 5, 4), 2);
        CHECK.taken(x, "drawn(0, 5, 1)", x.drawn(0, 5, 1), 0);
        CHECK.taken(x, "drawn(1, 5, 0)", x.drawn(1, 5, 0), 0);
        WaxTurns y = Check.with(toAndFro(43));
        CHECK.taken(y, "firstShut(5, 4), 43 is not below", y.firstShut(5, 4), -2);
        CHECK.taken(y, "drawn(1, 5, 4)", y.drawn(1, 5, 4), 2);
        // 65536 becomes itself, 36.
        WaxTurns z = Check.with(toAndFro(37));
        CHECK.taken(z, "firstShut(65536, 1)", z.firstShut(65536, 1), 1);
        CHECK.taken(z, "drawn(1, 65536, 200)", z.drawn(1, 65536, 200), 0);
        WaxTurns w = Check.with(toAndFro(36));
        CHECK.taken(w, "firstShut(65536, 200)", w.firstShut(65536, 200), -2);
        CHECK.taken(w, "drawn(1, 65536, 200)", w.drawn(1, 65536, 200), 100);
        CHECK.taken(w, "drawn(1, 65536, 199)", w.drawn(1, 65536, 199), 100);
        CHECK.taken(w, "drawn(0, 65536, 199)", w.drawn(0, 65536, 199), 99);
        WaxTurns shut = Check.with(toAndFro(100));
        CHECK.taken(shut, "firstShut(0, 9)", shut.firstShut(0, 9), 1);
        CHECK.taken(shut, "drawn(0, 0, 200)", shut.drawn(0, 0, 200), 0);
    }
}
