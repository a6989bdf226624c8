/** The boundaries that the terms (III: ROUTE, GUARD) and the promises 29 to 34 name, sentence by sentence. */
public final class AttendantEdgesTest {
    private static final int TERMS = Document.TERMS;
    private static final Check CHECK = new Check("AttendantEdgesTest");
    private static final int[] NO_MINUTES = {0, -1, 61, Integer.MIN_VALUE, Integer.MAX_VALUE};
    private static final int[] NO_PLACES = {-1, 3, Integer.MIN_VALUE, Integer.MAX_VALUE};

    private AttendantEdgesTest() {
    }

    public static void main(String[] args) {
        waysOfARoute();
        withIt();
        likeRoutes();
        guardTerms();
        route();
        routeAt();
        stand();
        guard();
        windBest();
        patrol();
        patrolFirst();
        CHECK.end();
    }

    private static String law(int figures, int span, int stairs, String law) {
        return "gallery figures " + figures + " span " + span + " stairs " + stairs + " shut 0;law " + law;
    }

    private static void dueWay(WaxTurns x, int from, int n, int... way) {
        for (int i = 1; i <= way.length; i++) {
            CHECK.taken(x, "routeAt(" + from + ", " + n + ", " + i + ")", x.routeAt(from, n, i), way[i - 1]);
        }
    }

    // ---- terms, III

    private static void waysOfARoute() {
        CHECK.sentence(TERMS, "each minute he stays, goes a PLACE down, or up");
        // Always figure 8, from 0 on: up a PLACE a minute, and there he stays.
        WaxTurns up = Check.with(law(9, 1, 0, "times 0 plus 8 first 8"));
        CHECK.taken(up, "route(0, 8)", up.route(0, 8), 1);
        CHECK.taken(up, "route(0, 7), too far", up.route(0, 7), 0);
        CHECK.taken(up, "route(0, 60)", up.route(0, 60), 53);
        dueWay(up, 0, 10, 1, 2, 3, 4, 5, 6, 7, 8, 8, 8);
        CHECK.taken(up, "route(8, 60), at the end of the row", up.route(8, 60), 60);
        WaxTurns down = Check.with(law(9, 1, 8, "times 0 plus 0 first 0"));
        CHECK.taken(down, "route(8, 8)", down.route(8, 8), 1);
        dueWay(down, 8, 10, 7, 6, 5, 4, 3, 2, 1, 0, 0, 0);
        CHECK.taken(down, "route(0, 60), at the row's beginning", down.route(0, 60), 60);
        CHECK.taken(down, "route(1, 1), a step in the first minute", down.route(1, 1), 1);
        CHECK.taken(down, "route(2, 1)", down.route(2, 1), 0);
    }

    private static void withIt() {
        CHECK.sentence(TERMS, "he is WITH it, if he is where the figure is whose TURN it is (behind what it does; not "
            + "GONE)");
        // It steps from 0 to 1 in the first minute: he who stays at 0 is not with it.
        WaxTurns steps = Check.with(law(4, 1, 3, "times 0 plus 3 first 0") + ";figure a is 0 walks 1");
        CHECK.taken(steps, "route(0, 1)", steps.route(0, 1), 1);
        dueWay(steps, 0, 1, 1);
        CHECK.taken(steps, "route(3, 1)", steps.route(3, 1), 0);
        // It is caught, and is where it was.
        WaxTurns caught = Check.with(law(4, 1, 3, "times 0 plus 3 first 0") + ";figure a is 0 walks 1;"
            + "watcher w from 1 to 1");
        dueWay(caught, 0, 1, 0);
        CHECK.taken(caught, "route(2, 1), not where it is caught", caught.route(2, 1), 0);
        WaxTurns gone = Check.with(law(2, 9, 1, "times 0 plus 0 first 0") + ";figure a is 0 walks 1");
        CHECK.taken(gone, "route(1, 60), gone in the first minute", gone.route(1, 60), 0);
        CHECK.taken(gone, "route(0, 60)", gone.route(0, 60), 0);
        CHECK.sentence(TERMS, "He catches nobody.");
        WaxTurns free = Check.with(law(4, 9, 3, "times 0 plus 0 first 0") + ";figure a is 0 walks 1");
        // At 1 and at 2 he is with it, and in the third minute it is gone all the same.
        CHECK.taken(free, "route(1, 9)", free.route(1, 9), 2);
        dueWay(free, 1, 9, 1, 2, 2, 2);
    }

    private static void likeRoutes() {
        CHECK.sentence(TERMS, "a row by which he is WITH it in most minutes; of like ones the first, minute by minute "
            + "(staying ahead of down, down ahead of up)");
        WaxTurns hopeless = Check.with(law(9, 1, 0, "times 0 plus 8 first 8"));
        dueWay(hopeless, 4, 3, 4, 4, 4);
        // 1, then 3: he could be with the one at once, or stay and be with the other; staying goes ahead.
        WaxTurns both = Check.with(law(4, 1, 0, "times 1 plus 2 first 1"));
        CHECK.taken(both, "route(2, 2)", both.route(2, 2), 1);
        dueWay(both, 2, 1, 1);
        dueWay(both, 2, 2, 2, 3);
        // 1, then 4: from 2 it is down at once, or up twice; down goes ahead, and there he stays.
        WaxTurns apart = Check.with(law(5, 1, 0, "times 1 plus 3 first 1"));
        CHECK.taken(apart, "route(2, 2)", apart.route(2, 2), 1);
        dueWay(apart, 2, 2, 1, 1);
        // 4, then 2: from 3 up at once is as good as staying and down; staying goes ahead.
        WaxTurns late = Check.with(law(5, 1, 0, "times 0 plus 2 first 4"));
        CHECK.taken(late, "route(3, 3)", late.route(3, 3), 2);
        dueWay(late, 3, 3, 3, 2, 2);
        dueWay(late, 3, 1, 4);
        dueWay(late, 3, 2, 3, 2);
    }

    private static void guardTerms() {
        CHECK.sentence(TERMS, "the fewest PLACES at which, somebody standing at each all the time, as a watcher, besides "
            + "watchers, nobody more is GONE then: of like ones the least bits");
        // From 0 to the stairs at 8: each PLACE on its way will do, the first is 1, bits 2.
        WaxTurns x = Check.with(law(9, 20, 8, "times 0 plus 0 first 0") + ";figure a is 0 walks 1");
        CHECK.taken(x, "guard(60)", x.guard(60), 2);
        CHECK.taken(x, "guard(7), it is at 7 then", x.guard(7), 0);
        CHECK.taken(x, "guard(8)", x.guard(8), 2);
        x.go(5);
        CHECK.taken(x, "guard(2), it is at 5", x.guard(2), 0);
        CHECK.taken(x, "guard(3), at 6", x.guard(3), 64);
        WaxTurns own = Check.with(law(3, 20, 1, "times 0 plus 1 first 1") + ";figure a is 1 walks 1");
        CHECK.taken(own, "guard(1), its OWN PLACE is the stairs", own.guard(1), 2);
        WaxTurns first = Check.with(law(3, 20, 0, "times 0 plus 1 first 1") + ";figure a is 1 walks 1");
        CHECK.taken(first, "guard(1), at the first PLACE", first.guard(1), 1);
        WaxTurns last = Check.with(law(9, 20, 8, "times 0 plus 7 first 7") + ";figure a is 7 walks 1");
        CHECK.taken(last, "guard(1), at the last PLACE", last.guard(1), 256);
        WaxTurns watched = Check.with(law(9, 20, 8, "times 0 plus 0 first 0") + ";figure a is 0 walks 1;"
            + "watcher w from 5 to 5");
        CHECK.taken(watched, "guard(60), a watcher does", watched.guard(60), 0);
        // Two from both sides: at the stairs alone one is enough, so it goes ahead of two at less bits.
        WaxTurns two = Check.with(law(5, 3, 2, "times 1 plus 4 first 0") + ";figure a is 0 walks 1;"
            + "figure b is 4 walks 1");
        CHECK.taken(two, "guard(3), the one", two.guard(3), 2);
        CHECK.taken(two, "guard(60), both", two.guard(60), 4);
    }

    // ---- promises 29 to 34

    private static void route() {
        CHECK.sentence(TERMS, "ROUTE of an attendant from a PLACE for n minutes (1 .. 60)");
        WaxTurns x = Check.with(law(3, 2, 0, "times 0 plus 1 first 1") + ";watcher w from 0 to 0");
        CHECK.taken(x, "route(1, 1)", x.route(1, 1), 1);
        CHECK.taken(x, "route(1, 60)", x.route(1, 60), 60);
        CHECK.sentence(29, "ROUTE: in how many minutes he is WITH it. NONE: 1; 2.");
        CHECK.taken(x, "route(0, 1), the first PLACE", x.route(0, 1), 1);
        CHECK.taken(x, "route(2, 1), the last", x.route(2, 1), 1);
        for (int n : NO_MINUTES) {
            CHECK.refused(x, "route(0, " + n + ")", x.route(0, n), 2);
            CHECK.refused(x, "route(3, " + n + "), both", x.route(3, n), 1);
        }
        for (int place : NO_PLACES) {
            CHECK.refused(x, "route(" + place + ", 1)", x.route(place, 1), 1);
        }
        WaxTurns none = new WaxTurns();
        CHECK.refused(none, "route(0, 1)", none.route(0, 1), 1);
        CHECK.refused(none, "route(0, 0)", none.route(0, 0), 1);
    }

    private static void routeAt() {
        CHECK.sentence(30, "Where he is in the i-th minute of it (1 .. n). NONE: 1 (i, too); 2.");
        WaxTurns x = Check.with(law(3, 2, 0, "times 0 plus 2 first 2") + ";watcher w from 0 to 0");
        CHECK.taken(x, "routeAt(0, 1, 1)", x.routeAt(0, 1, 1), 0);
        CHECK.taken(x, "routeAt(0, 60, 1)", x.routeAt(0, 60, 1), 1);
        CHECK.taken(x, "routeAt(0, 60, 60)", x.routeAt(0, 60, 60), 2);
        for (int i : new int[] {0, -1, 61, Integer.MIN_VALUE, Integer.MAX_VALUE}) {
            CHECK.refused(x, "routeAt(0, 60, " + i + ")", x.routeAt(0, 60, i), 1);
        }
        CHECK.refused(x, "routeAt(0, 5, 6)", x.routeAt(0, 5, 6), 1);
        CHECK.taken(x, "routeAt(0, 5, 5)", x.routeAt(0, 5, 5), 2);
        for (int place : NO_PLACES) {
            CHECK.refused(x, "routeAt(" + place + ", 5, 1)", x.routeAt(place, 5, 1), 1);
            CHECK.refused(x, "routeAt(" + place + ", 61, 1), both", x.routeAt(place, 61, 1), 1);
        }
        CHECK.refused(x, "routeAt(0, 61, 1)", x.routeAt(0, 61, 1), 2);
        CHECK.refused(x, "routeAt(0, 61, 61)", x.routeAt(0, 61, 61), 2);
        CHECK.refused(x, "routeAt(0, 2147483647, 1)", x.routeAt(0, Integer.MAX_VALUE, 1), 2);
        CHECK.refused(x, "routeAt(0, 61, 62), both", x.routeAt(0, 61, 62), 1);
        // For no minutes there is no i-th one either: both, so 1 goes ahead, as everywhere.
        CHECK.refused(x, "routeAt(0, 0, 1), both", x.routeAt(0, 0, 1), 1);
        CHECK.refused(x, "routeAt(0, 0, 0), both", x.routeAt(0, 0, 0), 1);
        CHECK.refused(x, "routeAt(0, -1, 1), both", x.routeAt(0, -1, 1), 1);
        WaxTurns none = new WaxTurns();
        CHECK.refused(none, "routeAt(0, 1, 1)", none.routeAt(0, 1, 1), 1);
        CHECK.refused(none, "routeAt(0, 61, 1)", none.routeAt(0, 61, 1), 1);
    }

    private static void stand() {
        CHECK.sentence(31, "The PLACE from which ROUTE is best, the first such.");
        WaxTurns last = Check.with(law(9, 1, 0, "times 0 plus 8 first 8"));
        CHECK.taken(last, "stand(1), from 7 and from 8", last.stand(1), 7);
        CHECK.taken(last, "stand(60), likewise", last.stand(60), 7);
        WaxTurns first = Check.with(law(9, 1, 0, "times 0 plus 0 first 0"));
        CHECK.taken(first, "stand(1), from 0 and from 1", first.stand(1), 0);
        WaxTurns middle = Check.with(law(3, 1, 0, "times 0 plus 2 first 2"));
        CHECK.taken(middle, "stand(1), from 1 and from 2", middle.stand(1), 1);
        // It is gone at once: no PLACE is better than another.
        WaxTurns gone = Check.with(law(2, 1, 1, "times 0 plus 1 first 1") + ";figure a is 1 walks 1");
        CHECK.taken(gone, "stand(60), none is any good", gone.stand(60), 0);
        CHECK.sentence(31, "NONE: 1 (no GALLERY); 2.");
        for (int n : NO_MINUTES) {
            CHECK.refused(last, "stand(" + n + ")", last.stand(n), 2);
        }
        WaxTurns none = new WaxTurns();
        CHECK.refused(none, "stand(1)", none.stand(1), 1);
        CHECK.refused(none, "stand(0)", none.stand(0), 1);
    }

    private static void guard() {
        CHECK.sentence(TERMS, "GUARD for n minutes (1 .. 60)");
        // Gone in minute 60 (the 60th): three steps, each at the end of a TURN of 20.
        WaxTurns x = Check.with(law(4, 20, 3, "times 0 plus 0 first 0") + ";figure a is 0 walks 20");
        CHECK.taken(x, "guard(1)", x.guard(1), 0);
        CHECK.taken(x, "guard(59)", x.guard(59), 0);
        CHECK.taken(x, "guard(60)", x.guard(60), 2);
        CHECK.sentence(32, "GUARD, as bits of PLACES; -2 by none. NONE: 1 (no GALLERY); 2.");
        // One at the stairs is always enough, so -2 never comes: here 8, and each of nine comes there.
        WaxTurns all = Check.with(law(9, 1, 4, "times 1 plus 1 first 0") + ";figure a is 0 walks 1;figure b is 1 walks 1;"
            + "figure c is 2 walks 1;figure d is 3 walks 1;figure e is 4 walks 1;figure f is 5 walks 1;"
            + "figure g is 6 walks 1;figure h is 7 walks 1;figure i is 8 walks 1");
        CHECK.taken(all, "guard(60), at the stairs", all.guard(60), 16);
        for (int n : NO_MINUTES) {
            CHECK.refused(x, "guard(" + n + ")", x.guard(n), 2);
        }
        WaxTurns none = new WaxTurns();
        CHECK.refused(none, "guard(1)", none.guard(1), 1);
        CHECK.refused(none, "guard(0)", none.guard(0), 1);
        // Those who are gone already are nobody more.
        WaxTurns gone = Check.with(law(2, 1, 1, "times 0 plus 0 first 0") + ";figure a is 0 walks 1");
        CHECK.taken(gone, "guard(1)", gone.guard(1), 2);
        gone.go(1);
        CHECK.taken(gone, "guard(60), gone", gone.guard(60), 0);
    }

    private static void windBest() {
        CHECK.sentence(33, "Whom to WIND up NOW that it takes most minutes till one more is GONE");
        // By turns 0, 1, 2: from each on figure 0 has its TURN in 0, 2, 1 TURNS.
        WaxTurns x = Check.with(Galleries.THREE);
        CHECK.taken(x, "windBest()", x.windBest(), 1);
        CHECK.sentence(33, "(never, within 300: most of all), the first such.");
        WaxTurns never = Check.with(Galleries.FIVE);
        CHECK.taken(never, "windBest(), never by any: the first", never.windBest(), 0);
        // 260, 300, never, 280 minutes, and never by the others.
        WaxTurns late = Check.with(law(7, 20, 5, "times 2 plus 1 first 1") + ";figure a is 0 walks 20");
        CHECK.taken(late, "windBest(), never goes ahead of the 300th", late.windBest(), 2);
        // Each goes on with figure 1, who is gone in its first minute: 2, 1, 2, 2.
        WaxTurns soon = Check.with(law(4, 1, 1, "times 0 plus 1 first 1") + ";figure a is 1 walks 1");
        CHECK.taken(soon, "windBest(), of like ones the first", soon.windBest(), 0);
        soon.go(1);
        CHECK.taken(soon, "windBest(), it is gone", soon.windBest(), 0);
        CHECK.due("size(11), nothing is wound up", soon.size(11), 1);
        CHECK.due("alive()", soon.alive(), 1);
        // Figure 1 is caught at its OWN PLACE, the stairs, in even minutes, and gone in odd ones.
        WaxTurns edge = Check.with(law(3, 2, 1, "times 0 plus 1 first 1") + ";figure a is 1 walks 1;"
            + "watcher w from 1 to 0");
        CHECK.taken(edge, "windBest(), 4, 2, 4 minutes", edge.windBest(), 0);
        // NOW, not a minute later: figure 0 steps to the stairs in its TURN, and he is there in odd minutes.
        WaxTurns now = Check.with(law(3, 1, 1, "times 1 plus 1 first 2") + ";figure a is 0 walks 1;watcher w from 0 to 1");
        CHECK.taken(now, "windBest(), 1, 3, 5 minutes", now.windBest(), 2);
        now.go(1);
        CHECK.taken(now, "windBest(), 4, 6, 2 minutes", now.windBest(), 1);
        CHECK.sentence(33, "NONE: 1 (no GALLERY).");
        WaxTurns none = new WaxTurns();
        CHECK.refused(none, "windBest()", none.windBest(), 1);
    }

    private static void patrol() {
        CHECK.sentence(34, "From and to (10 times the one and the other) for a watcher, in place of his own and as if from "
            + "minute 0 on");
        // It steps to 1 in minute 0: he who is there then catches it; his own way, from 0, would not.
        WaxTurns x = Check.with(law(3, 1, 2, "times 1 plus 1 first 0") + ";figure a is 0 walks 1;watcher w from 0 to 0");
        CHECK.taken(x, "patrol(0, 1), at 1 in minute 0, at 0 next", x.patrol(0, 1), 10);
        CHECK.taken(x, "watcher(0, 0) is as it was", x.watcher(0, 0), 0);
        WaxTurns odd = Check.with(law(3, 1, 2, "times 1 plus 1 first 2") + ";figure a is 0 walks 1;watcher w from 0 to 0");
        CHECK.taken(odd, "patrol(0, 2), at 1 in minute 1, from 0", odd.patrol(0, 2), 1);
        odd.go(1);
        CHECK.taken(odd, "patrol(0, 1), as if from minute 0 on", odd.patrol(0, 1), 1);
        CHECK.sentence(34, "(1 .. 60)");
        // Gone in the 60th minute by three steps, but for one who is at 1, 2 or 3 in minute 19, 39 or 59.
        WaxTurns edge = Check.with(law(4, 20, 3, "times 0 plus 0 first 0") + ";figure a is 0 walks 20;"
            + "watcher w from 0 to 0");
        CHECK.taken(edge, "patrol(0, 59), caught twice, in minutes 19 and 39: 0, 1", edge.patrol(0, 59), 1);
        CHECK.taken(edge, "patrol(0, 60), three times", edge.patrol(0, 60), 1);
        CHECK.sentence(34, "NONE: 1; 2.");
        for (int n : NO_MINUTES) {
            CHECK.refused(x, "patrol(0, " + n + ")", x.patrol(0, n), 2);
            CHECK.refused(x, "patrol(1, " + n + "), both", x.patrol(1, n), 1);
        }
        for (int w : new int[] {-1, 1, 3, Integer.MIN_VALUE, Integer.MAX_VALUE}) {
            CHECK.refused(x, "patrol(" + w + ", 1)", x.patrol(w, 1), 1);
        }
        WaxTurns without = Check.with(Galleries.SETTLING);
        CHECK.refused(without, "patrol(0, 1), there is no watcher", without.patrol(0, 1), 1);
        WaxTurns none = new WaxTurns();
        CHECK.refused(none, "patrol(0, 1)", none.patrol(0, 1), 1);
        CHECK.refused(none, "patrol(0, 0)", none.patrol(0, 0), 1);
    }

    private static void patrolFirst() {
        CHECK.sentence(34, "by which fewest more are GONE within n minutes (1 .. 60), of like ones most are CAUGHT, the first "
            + "such");
        WaxTurns idle = Check.with(Galleries.SETTLING + ";watcher w from 3 to 3");
        CHECK.taken(idle, "patrol(0, 60), all alike", idle.patrol(0, 60), 0);
        // To the stairs at 1 from 0 and from 2; at 1 he catches both each time.
        WaxTurns both = Check.with(law(3, 1, 1, "times 1 plus 2 first 0") + ";figure a is 0 walks 1;figure b is 2 walks 1;"
            + "watcher w from 0 to 0");
        CHECK.taken(both, "patrol(0, 60)", both.patrol(0, 60), 11);
        // In minute 0 figure 0 steps, in minute 1 figure 2: 0 to 1 and 2 to 1 catch the second, 1 to 0 the first.
        CHECK.taken(both, "patrol(0, 1)", both.patrol(0, 1), 10);
        CHECK.taken(both, "patrol(0, 2), at 1 twice", both.patrol(0, 2), 11);
        // The last way of all: at 8 alone, for figure 8, its OWN PLACE being the stairs.
        WaxTurns last = Check.with(law(9, 1, 8, "times 0 plus 8 first 8") + ";figure a is 8 walks 1;watcher w from 0 to 0");
        CHECK.taken(last, "patrol(0, 60)", last.patrol(0, 60), 88);
        // Another watcher catches as before.
        WaxTurns two = Check.with(law(9, 1, 8, "times 0 plus 8 first 8") + ";figure a is 8 walks 1;watcher v from 0 to 0;"
            + "watcher w from 8 to 8");
        CHECK.taken(two, "patrol(0, 60), he is not needed", two.patrol(0, 60), 0);
        CHECK.taken(two, "patrol(1, 60), he is", two.patrol(1, 60), 88);
    }
}
