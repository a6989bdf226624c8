import java.util.function.LongSupplier;

/** The boundaries that the terms (II, IV) and the promises 6 to 10 and 57 to 59 name, sentence by sentence. */
public final class NowEdgesTest {
    private static final int TERMS = Document.TERMS;
    private static final Check CHECK = new Check("NowEdgesTest");

    private NowEdgesTest() {
    }

    public static void main(String[] args) {
        uses();
        figuresAndTurns();
        watchers();
        steps();
        caughtOrGone();
        speaking();
        stiffAndFirst();
        troubles();
        figure();
        watcher();
        aliveLeftCaught();
        led();
        size();
        trouble();
        CHECK.end();
    }

    private static String hall(int figures, int span, int stairs) {
        return "gallery figures " + figures + " span " + span + " stairs " + stairs + " shut 0";
    }

    private static void uses() {
        CHECK.sentence(Document.AHEAD_OF_TERMS, "An object is used for at most 512 calls after it has been made");
        WaxTurns x = new WaxTurns();
        int calls = 5;
        Check.tell(x, hall(2, 1, 0) + ";law times 1 plus 1 first 0");
        for (; calls < 511; calls++) {
            x.go(1);
        }
        CHECK.due("size(10) as the 512th call", x.size(10), 506);
    }

    // ---- terms, II

    private static void figuresAndTurns() {
        CHECK.sentence(TERMS, "Figures are numbered 0 .. figures less 1; at first each is at its OWN PLACE, of its number");
        for (int figures = 2; figures <= 9; figures++) {
            WaxTurns x = Check.with(hall(figures, 1, 0) + ";law times 0 plus 0 first 0");
            CHECK.refused(x, "figure(-1, 2)", x.figure(-1, 2), 1);
            for (int f = 0; f < figures; f++) {
                CHECK.taken(x, "figure(" + f + ", 2)", x.figure(f, 2), f);
            }
            CHECK.refused(x, "figure(" + figures + ", 2)", x.figure(figures, 2), 1);
        }
        CHECK.sentence(TERMS, "TURNS are numbered from 0 on: the first one is that of first");
        WaxTurns low = Check.with(hall(9, 1, 0) + ";law times 8 plus 8 first 0");
        CHECK.taken(low, "alive()", low.alive(), 0);
        WaxTurns high = Check.with(hall(9, 1, 0) + ";law times 8 plus 8 first 8");
        CHECK.taken(high, "alive()", high.alive(), 8);
        CHECK.sentence(TERMS, "its number times times, and plus, what is left by figures");
        // 8 * 8 + 8 is 72, and 0 is left; 0 * 8 + 8 is 8.
        CHECK.taken(high, "turnOf(1)", high.turnOf(1), 0);
        CHECK.taken(high, "turnOf(2)", high.turnOf(2), 8);
        WaxTurns two = Check.with(hall(2, 1, 0) + ";law times 1 plus 1 first 1");
        CHECK.taken(two, "turnOf(1), 2 of 2", two.turnOf(1), 0);
        WaxTurns zero = Check.with(hall(2, 1, 0) + ";law times 0 plus 0 first 1");
        CHECK.taken(zero, "turnOf(1), times 0 plus 0", zero.turnOf(1), 0);
        CHECK.sentence(TERMS, "A TURN lasts span minutes; minutes are numbered from 0 on.");
        WaxTurns one = Check.with(hall(2, 1, 0) + ";law times 1 plus 1 first 0");
        CHECK.taken(one, "left()", one.left(), 1);
        one.go(1);
        CHECK.taken(one, "alive() behind 1", one.alive(), 1);
        WaxTurns twenty = Check.with(hall(2, 20, 0) + ";law times 1 plus 1 first 0;watcher w from 0 to 1");
        CHECK.taken(twenty, "left()", twenty.left(), 20);
        CHECK.taken(twenty, "watcher(0, 2) in minute 0", twenty.watcher(0, 2), 0);
        twenty.go(19);
        CHECK.taken(twenty, "alive() behind 19", twenty.alive(), 0);
        CHECK.taken(twenty, "left() behind 19", twenty.left(), 1);
        twenty.go(1);
        CHECK.taken(twenty, "alive() behind 20", twenty.alive(), 1);
        CHECK.taken(twenty, "left() behind 20", twenty.left(), 20);
    }

    private static void watchers() {
        CHECK.sentence(TERMS, "A watcher at minute 0 is at from, goes a PLACE a minute to to, from there back to from, "
            + "and so on");
        rounds("from 0 to 8", 0, 1, 2, 3, 4, 5, 6, 7, 8, 7, 6, 5, 4, 3, 2, 1, 0, 1);
        rounds("from 8 to 0", 8, 7, 6, 5, 4, 3, 2, 1, 0, 1, 2, 3, 4, 5, 6, 7, 8, 7);
        rounds("from 3 to 4", 3, 4, 3, 4, 3);
        rounds("from 4 to 3", 4, 3, 4, 3, 4);
        rounds("from 5 to 2", 5, 4, 3, 2, 3, 4, 5, 4);
        CHECK.sentence(TERMS, "(who has both alike, stays)");
        rounds("from 0 to 0", 0, 0, 0, 0);
        rounds("from 8 to 8", 8, 8, 8, 8);
    }

    private static void rounds(String way, int... places) {
        WaxTurns x = Check.with(hall(9, 1, 0) + ";law times 1 plus 0 first 0;watcher w " + way);
        for (int minute = 0; minute < places.length; minute++) {
            CHECK.taken(x, "watcher(0, 2) " + way + " in minute " + minute, x.watcher(0, 2), places[minute]);
            CHECK.taken(x, "go(1)", x.go(1), 0);
        }
    }

    private static void steps() {
        CHECK.sentence(TERMS, "PACE divides the number of the minute in its TURN (the first one is 1), it STEPS: a PLACE "
            + "nearer to the stairs");
        placesBehind(hall(9, 20, 8) + ";law times 1 plus 0 first 0;figure a is 0 walks 1", 0, 1, 2, 3, 4, 5, 6, 7, 8);
        placesBehind(hall(9, 20, 8) + ";law times 1 plus 0 first 0;figure a is 0 walks 3", 0, 0, 0, 1, 1, 1, 2, 2);
        // Its PACE is its TURN's length: in the last minute of each; beyond it: never; it does not count on.
        placesBehind(hall(9, 3, 8) + ";law times 1 plus 0 first 0;figure a is 0 walks 3", 0, 0, 0, 1, 1, 1, 2, 2, 2, 3);
        placesBehind(hall(9, 3, 8) + ";law times 1 plus 0 first 0;figure a is 0 walks 4", 0, 0, 0, 0, 0, 0, 0, 0, 0, 0);
        placesBehind(hall(9, 3, 8) + ";law times 1 plus 0 first 0;figure a is 0 walks 2", 0, 0, 1, 1, 1, 2, 2, 2, 3, 3);
        WaxTurns down = Check.with(hall(9, 20, 0) + ";law times 1 plus 0 first 8;figure a is 8 walks 1");
        for (int minute = 0; minute <= 8; minute++) {
            CHECK.taken(down, "figure(8, 2) behind " + minute, down.figure(8, 2), 8 - minute);
            down.go(1);
        }
        CHECK.sentence(TERMS, "it has STEPPED, too, if it is there already, and stays");
        WaxTurns own = Check.with(hall(3, 2, 1) + ";law times 1 plus 0 first 1;figure a is 1 walks 2");
        CHECK.taken(own, "go(1)", own.go(1), 0);
        CHECK.taken(own, "figure(1, 3), at the stairs, not stepped", own.figure(1, 3), 0);
        CHECK.taken(own, "go(1)", own.go(1), 2);
        CHECK.taken(own, "figure(1, 2)", own.figure(1, 2), 1);
        CHECK.sentence(TERMS, "In a minute the figure whose TURN it is, unless it is GONE");
        WaxTurns gone = Check.with(hall(2, 5, 1) + ";law times 1 plus 0 first 0;figure a is 0 walks 1;"
            + "watcher w from 0 to 1");
        // Minute 0: he is at 0, so it is gone at 1; in minute 1 he is there, and it is not caught any more.
        CHECK.taken(gone, "go(1)", gone.go(1), 1);
        CHECK.taken(gone, "go(60)", gone.go(60), 0);
        CHECK.taken(gone, "caught()", gone.caught(), 0);
        WaxTurns others = Check.with(hall(3, 2, 2) + ";law times 0 plus 1 first 1;figure a is 0 walks 1");
        CHECK.taken(others, "go(60), it isn't its TURN", others.go(60), 0);
        CHECK.taken(others, "figure(0, 2)", others.figure(0, 2), 0);
    }

    private static void placesBehind(String text, int... places) {
        WaxTurns x = Check.with(text);
        for (int minute = 0; minute < places.length; minute++) {
            CHECK.taken(x, "figure(0, 2) behind " + minute + " of " + text, x.figure(0, 2), places[minute]);
            x.go(1);
        }
    }

    private static void caughtOrGone() {
        CHECK.sentence(TERMS, "if a watcher is at its PLACE at that minute, it is CAUGHT: at its OWN PLACE again");
        WaxTurns x = Check.with(hall(4, 9, 3) + ";law times 1 plus 0 first 0;figure a is 0 walks 1;"
            + "watcher w from 2 to 2");
        int[] places = {0, 1, 0, 1, 0, 1, 0};
        for (int minute = 0; minute < places.length; minute++) {
            CHECK.taken(x, "figure(0, 2) behind " + minute, x.figure(0, 2), places[minute]);
            CHECK.taken(x, "caught() behind " + minute, x.caught(), minute / 2);
            x.go(1);
        }
        // The third of three watchers counts as the first does, and two at one place catch once.
        WaxTurns third = Check.with(hall(4, 9, 3) + ";law times 1 plus 0 first 0;figure a is 0 walks 1;"
            + "watcher u from 3 to 3;watcher v from 1 to 1;watcher w from 1 to 1");
        third.go(1);
        CHECK.taken(third, "caught()", third.caught(), 1);
        // At the stairs he catches, too: caught goes ahead of gone.
        WaxTurns stairs = Check.with(hall(2, 9, 1) + ";law times 1 plus 0 first 0;figure a is 0 walks 1;"
            + "watcher w from 1 to 1");
        CHECK.taken(stairs, "go(60)", stairs.go(60), 0);
        CHECK.taken(stairs, "caught()", stairs.caught(), 60);
        CHECK.sentence(TERMS, "if none is, and it is at the stairs, it is GONE");
        WaxTurns free = Check.with(hall(2, 9, 1) + ";law times 1 plus 0 first 0;figure a is 0 walks 1;"
            + "watcher w from 0 to 0");
        CHECK.taken(free, "go(1)", free.go(1), 1);
        CHECK.taken(free, "caught(), he is next to it", free.caught(), 0);
        CHECK.sentence(TERMS, "(Who hasn't STEPPED isn't CAUGHT, nor GONE.");
        WaxTurns stands = Check.with(hall(2, 3, 1) + ";law times 1 plus 0 first 1;figure a is 1 walks 4;"
            + "watcher w from 1 to 1");
        CHECK.taken(stands, "go(60)", stands.go(60), 0);
        CHECK.taken(stands, "caught()", stands.caught(), 0);
        WaxTurns speaks = Check.with(hall(2, 3, 1) + ";law times 1 plus 0 first 1;figure a is 1 speaks 1");
        CHECK.taken(speaks, "go(60), one that speaks at the stairs", speaks.go(60), 0);
        CHECK.sentence(TERMS, "The PLACE of one that is GONE is the stairs, ever after.)");
        free.go(60);
        CHECK.taken(free, "figure(0, 2)", free.figure(0, 2), 1);
        CHECK.taken(free, "place(0, 300)", free.place(0, 300), 1);
        CHECK.refused(free, "put(0)", free.put(0), 5);
    }

    private static void speaking() {
        CHECK.sentence(TERMS, "it says in the minutes of each of its TURNS PARTS 1, 2 .., one a minute, as far as it has "
            + "some");
        heardBehind(hall(2, 3, 0) + ";law times 1 plus 1 first 0;figure a is 0 speaks 2;watcher w from 0 to 0",
            0, 1, 3, 3, 3, 3, 3, 3);
        heardBehind(hall(2, 3, 0) + ";law times 1 plus 1 first 0;figure a is 0 speaks 3;watcher w from 0 to 0",
            0, 1, 3, 7, 7, 7, 7, 7);
        heardBehind(hall(2, 3, 0) + ";law times 1 plus 0 first 0;figure a is 0 speaks 4;watcher w from 0 to 0",
            0, 1, 3, 7, 7, 7, 7, 7, 7, 7);
        heardBehind(hall(2, 20, 0) + ";law times 1 plus 0 first 0;figure a is 0 speaks 1;watcher w from 0 to 0",
            0, 1, 1, 1);
        WaxTurns most = Check.with(hall(2, 20, 0) + ";law times 1 plus 0 first 0;figure a is 0 speaks 20;"
            + "watcher w from 0 to 0");
        most.go(19);
        CHECK.taken(most, "figure(0, 4) behind 19", most.figure(0, 4), 524287);
        most.go(1);
        CHECK.taken(most, "figure(0, 4) behind 20", most.figure(0, 4), 1048575);
        CHECK.sentence(TERMS, "a PART is HEARD if a watcher is at its PLACE, or next to it, at that minute");
        int[] heardFrom = {0, 0, 0, 1, 1, 1, 0, 0, 0};
        for (int place = 0; place <= 8; place++) {
            heardBehind(speaker(4, place), 0, heardFrom[place]);
        }
        // The row does not go round: 8 isn't next to 0.
        int[] atTheEnd = {1, 1, 0, 0, 0, 0, 0, 0, 0};
        for (int place = 0; place <= 8; place++) {
            heardBehind(speaker(0, place), 0, atTheEnd[place]);
            heardBehind(speaker(8, 8 - place), 0, atTheEnd[place]);
        }
        // He is near only when it has no PART left to say.
        heardBehind(hall(9, 2, 0) + ";law times 1 plus 0 first 0;figure a is 0 speaks 1;watcher w from 2 to 1",
            0, 0, 0, 0, 0, 0, 0);
        // He is near in each second minute alone.
        heardBehind(hall(9, 9, 0) + ";law times 1 plus 0 first 0;figure a is 0 speaks 9;watcher w from 2 to 1",
            0, 0, 2, 2, 10, 10, 42);
    }

    private static String speaker(int f, int watched) {
        return hall(9, 9, 0) + ";law times 1 plus 0 first " + f + ";figure a is " + f + " speaks 1;watcher w from "
            + watched + " to " + watched;
    }

    private static void heardBehind(String text, int... bits) {
        WaxTurns x = Check.with(text);
        int f = x.alive();
        for (int minute = 0; minute < bits.length; minute++) {
            CHECK.taken(x, "figure(" + f + ", 4) behind " + minute + " of " + text, x.figure(f, 4), bits[minute]);
            x.go(1);
        }
    }

    private static void stiffAndFirst() {
        CHECK.sentence(TERMS, "Figures that aren't told are stiff.");
        WaxTurns x = Check.with(hall(3, 2, 2) + ";law times 1 plus 0 first 2;watcher w from 2 to 2");
        x.go(60);
        CHECK.taken(x, "figure(2, 0)", x.figure(2, 0), 0);
        CHECK.taken(x, "figure(2, 3), at the stairs", x.figure(2, 3), 0);
        CHECK.taken(x, "figure(2, 4)", x.figure(2, 4), 0);
        CHECK.taken(x, "caught()", x.caught(), 0);
        CHECK.sentence(TERMS, "At first no minute has gone by; NOW is behind so many; the next minute has that number.");
        WaxTurns y = Check.with(Galleries.THREE);
        CHECK.due("size(10)", y.size(10), 0);
        CHECK.due("watcher(0, 2) in minute 0", y.watcher(0, 2), 1);
        y.go(1);
        CHECK.due("size(10)", y.size(10), 1);
        CHECK.due("watcher(0, 2) in minute 1", y.watcher(0, 2), 2);
    }

    // ---- terms, IV

    private static void troubles() {
        CHECK.sentence(TERMS, "0 it wasn't; 1 there is none such; 2 a number; 3 no room; 4 a FAULT; 5 not so; 6 there is "
            + "none.");
        WaxTurns x = Check.with(Galleries.THREE);
        CHECK.due("0", x.trouble(), 0);
        CHECK.due("alive() of another object, without a GALLERY", new WaxTurns().alive(), -1);
        CHECK.due("0, its own", x.trouble(), 0);
        CHECK.refused(x, "figure(3, 0)", x.figure(3, 0), 1);
        CHECK.refused(x, "go(61)", x.go(61), 2);
        x.image();
        x.image();
        x.image();
        CHECK.refused(x, "image()", x.image(), 3);
        CHECK.refused(x, "gallery(0)", x.gallery(0), 4);
        CHECK.refused(x, "put(0)", x.put(0), 5);
        CHECK.due("undo()", x.undo(), false);
        CHECK.due("6", x.trouble(), 6);
        CHECK.taken(x, "alive()", x.alive(), 0);
        eachTaken();
        CHECK.sentence(TERMS, "TROUBLE of the latest call that may be refused (those of which a number is told here)");
        CHECK.due("undo()", x.undo(), false);
        CHECK.due("feed()", x.feed(0, 0, 0, 0, 0), 20);
        CHECK.due("fault()", x.fault(), 1);
        CHECK.due("where()", x.where(), -1);
        CHECK.due("size(14)", x.size(14), -1);
        CHECK.dueLed(x, 0, -1);
        CHECK.due("trouble()", x.trouble(), 6);
        CHECK.due("trouble() itself leaves it", x.trouble(), 6);
        WaxTurns full = new WaxTurns();
        for (int i = 0; i < 45; i++) {
            full.feed(0, 0, 0, 0, 0);
        }
        full.undo();
        CHECK.due("feed() beyond 900", full.feed(0, 0, 0, 0, 0), -1);
        CHECK.due("trouble(), feed has no number", full.trouble(), 6);
        CHECK.sentence(TERMS, "`NONE = -1`: There is none; refused.");
        CHECK.due("NONE", WaxTurns.NONE, -1);
    }

    /** Behind a refused call each call that is taken makes TROUBLE 0, those that answer -2 too. */
    private static void eachTaken() {
        WaxTurns x = Check.with(Galleries.FIVE);
        LongSupplier[] calls = {() -> x.figure(0, 0), () -> x.watcher(0, 0), x::alive, x::left, x::caught,
            () -> x.turnOf(0), () -> x.turnIn(0), x::settles, x::round, x::called, () -> x.minutesOf(0, 0),
            () -> x.place(0, 0), () -> x.watch(0, 1), () -> x.gone(0), x::stairs, () -> x.catches(0),
            () -> x.heard(0, 0), () -> x.allIn(0), () -> x.meets(0), () -> x.crowd(0), () -> x.farthest(0),
            () -> x.nearBy(0, 0), () -> x.spoken(0, 0), () -> x.route(0, 1), () -> x.routeAt(0, 1, 1),
            () -> x.stand(1), () -> x.guard(1), x::windBest, () -> x.patrol(0, 1), x::fits, () -> x.fitAt(0),
            () -> x.could(0), () -> x.aliveBy(0, 0), x::look, x::lookLeaves, x::lawsLike, () -> x.lawFor(0, 0),
            x::judge, () -> x.dares(0, true, true, true), () -> x.rests(0), () -> x.rest(0),
            () -> x.odds(0, 0, true), () -> x.mean(0, 0, true), () -> x.drawn(0, 0, 0), () -> x.firstShut(0, 0),
            x::image, () -> x.back(0) ? 1 : 0, () -> x.wind(1), () -> x.go(8), () -> x.put(1), () -> x.undo() ? 1 : 0};
        for (int i = 0; i < calls.length; i++) {
            x.figure(9, 9);
            CHECK.due("trouble() ahead of call " + i, x.trouble(), 1);
            long answer = calls[i].getAsLong();
            CHECK.due("trouble() behind call " + i + ", which answered " + answer, x.trouble(), 0);
        }
    }

    // ---- promises 6 to 10

    private static void figure() {
        CHECK.sentence(6, "0 KIND (0 stiff, 1 walks, 2 speaks), 1 PACE or PARTS (0 if it is stiff)");
        WaxTurns x = Check.with(hall(4, 2, 2) + ";law times 1 plus 1 first 0;figure a is 0 walks 20;"
            + "figure b is 3 speaks 20;figure c is 1 walks 1;watcher w from 0 to 3");
        int[][] told = {{1, 20}, {1, 1}, {0, 0}, {2, 20}};
        for (int f = 0; f < 4; f++) {
            CHECK.taken(x, "figure(" + f + ", 0)", x.figure(f, 0), told[f][0]);
            CHECK.taken(x, "figure(" + f + ", 1)", x.figure(f, 1), told[f][1]);
        }
        CHECK.sentence(6, "2 its PLACE NOW, 3 1 if it is GONE, else 0");
        CHECK.taken(x, "figure(1, 2)", x.figure(1, 2), 1);
        CHECK.taken(x, "figure(1, 3)", x.figure(1, 3), 0);
        x.go(2);
        CHECK.taken(x, "figure(1, 3) ahead of it", x.figure(1, 3), 0);
        // Minute 2: it steps from 1 to 2, where he is: caught; minute 3: he is at 3, it is gone.
        CHECK.taken(x, "go(1)", x.go(1), 0);
        CHECK.taken(x, "figure(1, 2), caught", x.figure(1, 2), 1);
        CHECK.taken(x, "go(1)", x.go(1), 2);
        CHECK.taken(x, "figure(1, 2)", x.figure(1, 2), 2);
        CHECK.taken(x, "figure(1, 3)", x.figure(1, 3), 1);
        CHECK.taken(x, "figure(0, 3)", x.figure(0, 3), 0);
        CHECK.sentence(6, "4 PARTS that were HEARD by ACTS, as bits (the first one 1)");
        CHECK.taken(x, "figure(3, 4)", x.figure(3, 4), 0);
        x.go(2);
        // Minutes 4 and 5 are figure 2's, 6 and 7 figure 3's; he is at 0 and 1 then.
        x.go(2);
        CHECK.taken(x, "figure(3, 4), said, not heard", x.figure(3, 4), 0);
        x.go(7);
        // Minutes 14 and 15: he is at 2 and at 3.
        CHECK.taken(x, "figure(3, 4) behind 15", x.figure(3, 4), 1);
        x.go(1);
        CHECK.taken(x, "figure(3, 4) behind 16", x.figure(3, 4), 3);
        CHECK.taken(x, "figure(1, 4), it walks", x.figure(1, 4), 0);
        CHECK.sentence(6, "NONE: 1.");
        for (int wrong : new int[] {-1, Integer.MIN_VALUE, Integer.MAX_VALUE}) {
            CHECK.refused(x, "figure(" + wrong + ", 0)", x.figure(wrong, 0), 1);
            CHECK.refused(x, "figure(0, " + wrong + ")", x.figure(0, wrong), 1);
        }
        CHECK.refused(x, "figure(4, 0)", x.figure(4, 0), 1);
        CHECK.refused(x, "figure(0, 5)", x.figure(0, 5), 1);
        CHECK.refused(x, "figure(4, 5)", x.figure(4, 5), 1);
        WaxTurns none = new WaxTurns();
        CHECK.refused(none, "figure(0, 0), no GALLERY", none.figure(0, 0), 1);
    }

    private static void watcher() {
        CHECK.sentence(7, "0 from, 1 to, 2 where he is in the next minute");
        WaxTurns x = Check.with(hall(9, 2, 2) + ";law times 1 plus 1 first 0;watcher a from 8 to 0;"
            + "watcher b from 0 to 8;watcher c from 4 to 4");
        int[][] told = {{8, 0}, {0, 8}, {4, 4}};
        for (int w = 0; w < 3; w++) {
            CHECK.taken(x, "watcher(" + w + ", 0)", x.watcher(w, 0), told[w][0]);
            CHECK.taken(x, "watcher(" + w + ", 1)", x.watcher(w, 1), told[w][1]);
            CHECK.taken(x, "watcher(" + w + ", 2)", x.watcher(w, 2), told[w][0]);
        }
        x.go(8);
        for (int w = 0; w < 3; w++) {
            CHECK.taken(x, "watcher(" + w + ", 2) behind 8", x.watcher(w, 2), told[w][1]);
            CHECK.taken(x, "watcher(" + w + ", 0) stays", x.watcher(w, 0), told[w][0]);
            CHECK.taken(x, "watcher(" + w + ", 1) stays", x.watcher(w, 1), told[w][1]);
        }
        x.go(1);
        CHECK.taken(x, "watcher(0, 2) behind 9", x.watcher(0, 2), 1);
        CHECK.taken(x, "watcher(1, 2) behind 9", x.watcher(1, 2), 7);
        CHECK.sentence(7, "NONE: 1.");
        for (int wrong : new int[] {-1, 3, Integer.MIN_VALUE, Integer.MAX_VALUE}) {
            CHECK.refused(x, "watcher(" + wrong + ", 0)", x.watcher(wrong, 0), 1);
            CHECK.refused(x, "watcher(0, " + wrong + ")", x.watcher(0, wrong), 1);
        }
        WaxTurns fewer = Check.with(Galleries.THREE);
        CHECK.refused(fewer, "watcher(1, 0), there is but one", fewer.watcher(1, 0), 1);
        WaxTurns without = Check.with(Galleries.SETTLING);
        CHECK.refused(without, "watcher(0, 0), there is none", without.watcher(0, 0), 1);
        // A GALLERY with fewer takes those of the last one away.
        Check.tell(x, Galleries.SETTLING);
        CHECK.refused(x, "watcher(0, 0), there is none any more", x.watcher(0, 0), 1);
        WaxTurns none = new WaxTurns();
        CHECK.refused(none, "watcher(0, 0), no GALLERY", none.watcher(0, 0), 1);
    }

    private static void aliveLeftCaught() {
        CHECK.sentence(8, "Whose TURN the next minute is of. NONE: 1 (no GALLERY).");
        WaxTurns x = Check.with(Galleries.THREE);
        CHECK.taken(x, "alive()", x.alive(), 0);
        x.go(1);
        CHECK.taken(x, "alive() in the last minute of a TURN", x.alive(), 0);
        x.go(1);
        CHECK.taken(x, "alive() at the next one's first", x.alive(), 1);
        x.go(4);
        CHECK.taken(x, "alive(), gone round", x.alive(), 0);
        x.go(1);
        CHECK.taken(x, "alive(), its TURN goes on though it is gone", x.alive(), 0);
        WaxTurns none = new WaxTurns();
        CHECK.refused(none, "alive()", none.alive(), 1);
        CHECK.sentence(9, "How many minutes that TURN has yet. NONE: 1 (no GALLERY).");
        CHECK.taken(x, "left() of the last", x.left(), 1);
        x.go(1);
        CHECK.taken(x, "left() of a new one", x.left(), 2);
        CHECK.refused(none, "left()", none.left(), 1);
        CHECK.sentence(10, "How often one was CAUGHT by ACTS. NONE: 1 (no GALLERY).");
        WaxTurns y = Check.with(Galleries.THREE);
        CHECK.taken(y, "caught()", y.caught(), 0);
        CHECK.taken(y, "catches(1)", y.catches(1), 1);
        CHECK.taken(y, "caught(), not by looking ahead", y.caught(), 0);
        y.go(1);
        CHECK.taken(y, "caught()", y.caught(), 1);
        y.undo();
        CHECK.taken(y, "caught(), undone", y.caught(), 0);
        CHECK.refused(none, "caught()", none.caught(), 1);
    }

    // ---- promises 57 to 59

    private static void led() {
        CHECK.sentence(57, "The i-th figure, by numbers, that isn't at its OWN PLACE (GONE ones by the stairs).");
        WaxTurns x = Check.with(hall(5, 2, 2) + ";law times 1 plus 4 first 4;figure a is 0 walks 1;"
            + "figure b is 2 walks 1;figure c is 4 walks 2;figure d is 3 walks 1");
        CHECK.taken(x, "go(10): 3 to 2 and 2 itself are gone, 4 comes to 3, 0 to 2", x.go(10), 13);
        CHECK.dueLed(x, 0, 0);
        CHECK.dueLed(x, 1, 3);
        CHECK.dueLed(x, 2, 4);
        CHECK.sentence(57, "NoSuchElementException if there is none such.");
        CHECK.dueLed(x, 3, -1);
        CHECK.dueLed(x, -1, -1);
        CHECK.dueLed(x, Integer.MIN_VALUE, -1);
        CHECK.dueLed(x, Integer.MAX_VALUE, -1);
        WaxTurns y = Check.with(Galleries.THREE);
        CHECK.dueLed(y, 0, -1);
        y.go(2);
        CHECK.dueLed(y, 0, 0);
        y.put(0);
        CHECK.dueLed(y, 0, -1);
        CHECK.dueLed(new WaxTurns(), 0, -1);
    }

    private static void size() {
        CHECK.sentence(58, "0 figures, 1 span, 2 stairs, 3 shut, 4 figures told, 5 watchers, 6 seen, 7 times, 8 plus, "
            + "9 first, 10 minutes gone by NOW, 11 ACTS that can be undone, 12 IMAGES, 13 bytes of THE TAPE.");
        WaxTurns x = Check.with("gallery figures 9 span 20 stairs 8 shut 100;law times 7 plus 6 first 5;"
            + "figure a is 0 walks 1;figure b is 1 walks 1;watcher c from 0 to 1;"
            + "seen 0 at 0;seen 0 at 1;seen 0 at 2;seen 0 at 3");
        x.go(60);
        x.wind(0);
        x.wind(1);
        x.image();
        x.image();
        x.feed(0, 0, 0, 0, 0);
        x.feed(0, 0, 0, 0, 0);
        int[] due = {9, 20, 8, 100, 2, 1, 4, 7, 6, 5, 60, 3, 2, 40};
        for (int what = 0; what < due.length; what++) {
            CHECK.due("size(" + what + ")", x.size(what), due[what]);
        }
        CHECK.sentence(58, "NONE for others");
        for (int other : new int[] {-1, 14, 15, 100, Integer.MIN_VALUE, Integer.MAX_VALUE}) {
            CHECK.due("size(" + other + ")", x.size(other), -1);
            CHECK.due("size(" + other + "), no GALLERY", new WaxTurns().size(other), -1);
        }
        CHECK.sentence(58, "0 for what there isn't.");
        WaxTurns none = new WaxTurns();
        for (int what = 0; what <= 13; what++) {
            CHECK.due("size(" + what + "), no GALLERY", none.size(what), 0);
        }
        // A text that breaks off leaves none of what it told.
        Check.tell(none, "gallery figures 9 span 20 stairs 8 shut 100;law times 7 plus 6 first 5;watcher");
        for (int what = 0; what <= 13; what++) {
            CHECK.due("size(" + what + "), behind a FAULT", none.size(what), 0);
        }
        WaxTurns bare = Check.with("gallery figures 2 span 1 stairs 0 shut 0;law times 0 plus 0 first 0");
        int[] least = {2, 1, 0, 0, 0, 0, 0, 0, 0, 0, 0, 0, 0, 0};
        for (int what = 0; what < least.length; what++) {
            CHECK.due("size(" + what + ") of the least", bare.size(what), least[what]);
        }
    }

    private static void trouble() {
        CHECK.sentence(59, "TROUBLE.");
        WaxTurns x = new WaxTurns();
        CHECK.due("trouble() of a new object", x.trouble(), 0);
        x.alive();
        CHECK.due("trouble()", x.trouble(), 1);
        Check.tell(x, Galleries.THREE);
        CHECK.due("trouble(), taken", x.trouble(), 0);
        x.figure(0, 5);
        x.figure(0, 4);
        CHECK.due("trouble() of the latest", x.trouble(), 0);
    }
}
