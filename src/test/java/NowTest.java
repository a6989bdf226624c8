/** Promises 6 to 10 and 57 to 59: figure, watcher, alive, left, caught; led, size, trouble. */
public final class NowTest {
    private static final Check CHECK = new Check("NowTest");

    private NowTest() {
    }

    public static void main(String[] args) {
        withoutGallery();
        figures();
        watchers();
        turnNow();
        led();
        sizes();
        troubles();
        CHECK.end();
    }

    private static void withoutGallery() {
        WaxTurns x = new WaxTurns();
        CHECK.refused(x, "figure(0, 0)", x.figure(0, 0), 1);
        CHECK.refused(x, "watcher(0, 0)", x.watcher(0, 0), 1);
        CHECK.refused(x, "alive()", x.alive(), 1);
        CHECK.refused(x, "left()", x.left(), 1);
        CHECK.refused(x, "caught()", x.caught(), 1);
        CHECK.dueLed(x, 0, -1);
        CHECK.due("size(10)", x.size(10), 0);
    }

    private static void figures() {
        WaxTurns x = Check.with(Galleries.FIVE);
        int[] kinds = {0, 1, 1, 0, 2};
        int[] measures = {0, 1, 2, 0, 3};
        for (int f = 0; f < 5; f++) {
            CHECK.taken(x, "figure(" + f + ", 0)", x.figure(f, 0), kinds[f]);
            CHECK.taken(x, "figure(" + f + ", 1)", x.figure(f, 1), measures[f]);
            CHECK.taken(x, "figure(" + f + ", 2)", x.figure(f, 2), f);
            CHECK.taken(x, "figure(" + f + ", 3)", x.figure(f, 3), 0);
            CHECK.taken(x, "figure(" + f + ", 4)", x.figure(f, 4), 0);
        }
        CHECK.refused(x, "figure(5, 0)", x.figure(5, 0), 1);
        CHECK.refused(x, "figure(-1, 0)", x.figure(-1, 0), 1);
        CHECK.refused(x, "figure(0, 5)", x.figure(0, 5), 1);
        CHECK.refused(x, "figure(0, -1)", x.figure(0, -1), 1);
        x.go(9);
        CHECK.taken(x, "figure(4, 4) behind 9", x.figure(4, 4), 1);
        x.go(4);
        CHECK.taken(x, "figure(4, 4) behind 13", x.figure(4, 4), 7);
        CHECK.taken(x, "figure(1, 2) behind 13", x.figure(1, 2), 2);
        x.go(1);
        CHECK.taken(x, "figure(1, 2), caught", x.figure(1, 2), 1);
        WaxTurns y = Check.with(Galleries.THREE);
        y.go(6);
        CHECK.taken(y, "figure(0, 3)", y.figure(0, 3), 0);
        y.go(1);
        CHECK.taken(y, "figure(0, 3), gone", y.figure(0, 3), 1);
        CHECK.taken(y, "figure(0, 2), gone", y.figure(0, 2), 2);
        y.go(60);
        CHECK.taken(y, "figure(0, 2), ever after", y.figure(0, 2), 2);
    }

    private static void watchers() {
        WaxTurns x = Check.with(Galleries.FIVE);
        int[] round = {0, 1, 2, 1, 0, 1, 2, 1, 0};
        for (int minute = 0; minute < round.length; minute++) {
            CHECK.taken(x, "watcher(0, 2) in minute " + minute, x.watcher(0, 2), round[minute]);
            CHECK.taken(x, "watcher(1, 2) in minute " + minute, x.watcher(1, 2), 3);
            x.go(1);
        }
        CHECK.taken(x, "watcher(0, 0)", x.watcher(0, 0), 0);
        CHECK.taken(x, "watcher(0, 1)", x.watcher(0, 1), 2);
        CHECK.refused(x, "watcher(2, 0)", x.watcher(2, 0), 1);
        CHECK.refused(x, "watcher(-1, 0)", x.watcher(-1, 0), 1);
        CHECK.refused(x, "watcher(0, 3)", x.watcher(0, 3), 1);
        CHECK.refused(x, "watcher(0, -1)", x.watcher(0, -1), 1);
        WaxTurns y = Check.with(Galleries.SETTLING + ";watcher w from 3 to 1");
        int[] down = {3, 2, 1, 2, 3, 2, 1};
        for (int minute = 0; minute < down.length; minute++) {
            CHECK.taken(y, "watcher(0, 2), down first", y.watcher(0, 2), down[minute]);
            y.go(1);
        }
    }

    private static void turnNow() {
        WaxTurns x = Check.with(Galleries.FIVE);
        int[] turns = {0, 2, 4, 1, 3, 0};
        for (int minute = 0; minute < 24; minute++) {
            CHECK.taken(x, "alive() in minute " + minute, x.alive(), turns[minute / 4]);
            CHECK.taken(x, "left() in minute " + minute, x.left(), 4 - minute % 4);
            x.go(1);
        }
        WaxTurns y = Check.with(Galleries.FIVE);
        int[] caughtBehind = {0, 0, 0, 0, 0, 0, 1, 1, 2, 2, 2, 2, 2, 2, 3, 4, 4};
        for (int minute = 0; minute < caughtBehind.length; minute++) {
            CHECK.taken(y, "caught() behind " + minute, y.caught(), caughtBehind[minute]);
            y.go(1);
        }
    }

    private static void led() {
        WaxTurns x = Check.with(Galleries.THREE);
        CHECK.dueLed(x, 0, -1);
        CHECK.due("trouble() is not led's", x.trouble(), 0);
        x.go(2);
        CHECK.dueLed(x, 0, 0);
        CHECK.dueLed(x, 1, -1);
        CHECK.dueLed(x, -1, -1);
        x.go(5);
        CHECK.dueLed(x, 0, 0);
        x.alive();
        CHECK.dueLed(x, 7, -1);
        CHECK.due("trouble() stays", x.trouble(), 0);
        WaxTurns y = Check.with("gallery figures 4 span 1 stairs 2 shut 0;law times 1 plus 1 first 0;"
            + "figure a is 0 walks 1;figure b is 2 walks 1;figure c is 3 walks 1");
        y.go(4);
        CHECK.due("gone(0)", y.gone(0), 12);
        // Figure 2 is gone from its own place, which is the stairs: it is not led away.
        CHECK.dueLed(y, 0, 0);
        CHECK.dueLed(y, 1, 3);
        CHECK.dueLed(y, 2, -1);
    }

    private static void sizes() {
        WaxTurns x = Check.with(Galleries.FIVE);
        x.go(7);
        x.wind(0);
        x.image();
        x.feed(0, 0, 0, 0, 0);
        x.figure(9, 9);
        int[] due = {5, 4, 4, 50, 3, 2, 2, 1, 2, 0, 7, 2, 1, 20};
        for (int what = 0; what < due.length; what++) {
            CHECK.due("size(" + what + ")", x.size(what), due[what]);
        }
        CHECK.due("size(-1)", x.size(-1), -1);
        CHECK.due("size(14)", x.size(14), -1);
        CHECK.due("size of the least number", x.size(Integer.MIN_VALUE), -1);
        CHECK.due("trouble() is not size's", x.trouble(), 1);
    }

    private static void troubles() {
        WaxTurns x = Check.with(Galleries.THREE);
        CHECK.due("trouble()", x.trouble(), 0);
        x.figure(9, 0);
        CHECK.due("1", x.trouble(), 1);
        x.go(0);
        CHECK.due("2", x.trouble(), 2);
        x.image();
        x.image();
        x.image();
        CHECK.due("0 again", x.trouble(), 0);
        x.image();
        CHECK.due("3", x.trouble(), 3);
        Check.tell(x, "x");
        CHECK.due("4", x.trouble(), 4);
        x.put(0);
        CHECK.due("5", x.trouble(), 5);
        x.undo();
        CHECK.due("6", x.trouble(), 6);
        x.fault();
        x.where();
        x.size(0);
        x.feed(0, 0, 0, 0, 0);
        CHECK.due("6 stays", x.trouble(), 6);
        CHECK.due("stairs()", x.stairs(), 7);
        CHECK.due("0 behind a call that was not refused", x.trouble(), 0);
        CHECK.due("turnIn(0)", x.turnIn(0), 0);
        WaxTurns y = Check.with(Galleries.SETTLING);
        y.figure(9, 0);
        CHECK.due("turnIn(0), never", y.turnIn(0), -2);
        CHECK.due("-2 is no refusal", y.trouble(), 0);
    }
}
