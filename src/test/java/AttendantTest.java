/** Promises 29 to 34: route, routeAt, stand, guard, windBest, patrol. */
public final class AttendantTest {
    private static final Check CHECK = new Check("AttendantTest");

    private AttendantTest() {
    }

    public static void main(String[] args) {
        wrongNumbers();
        routes();
        stayingThenDownThenUp();
        notWithTheGone();
        stands();
        guards();
        winding();
        patrols();
        CHECK.end();
    }

    private static void wrongNumbers() {
        WaxTurns none = new WaxTurns();
        CHECK.refused(none, "route", none.route(0, 0), 1);
        CHECK.refused(none, "routeAt", none.routeAt(0, 1, 1), 1);
        CHECK.refused(none, "stand", none.stand(0), 1);
        CHECK.refused(none, "guard", none.guard(0), 1);
        CHECK.refused(none, "windBest", none.windBest(), 1);
        CHECK.refused(none, "patrol", none.patrol(0, 0), 1);
        WaxTurns x = Check.with(Galleries.THREE);
        for (int n : new int[] {0, -1, 61, Integer.MIN_VALUE, Integer.MAX_VALUE}) {
            CHECK.refused(x, "route(0, " + n + ")", x.route(0, n), 2);
            CHECK.refused(x, "route(3, " + n + ")", x.route(3, n), 1);
            CHECK.refused(x, "route(-1, " + n + ")", x.route(-1, n), 1);
            CHECK.refused(x, "stand(" + n + ")", x.stand(n), 2);
            CHECK.refused(x, "guard(" + n + ")", x.guard(n), 2);
            CHECK.refused(x, "patrol(0, " + n + ")", x.patrol(0, n), 2);
            CHECK.refused(x, "patrol(1, " + n + ")", x.patrol(1, n), 1);
            CHECK.refused(x, "patrol(-1, " + n + ")", x.patrol(-1, n), 1);
        }
        CHECK.refused(x, "routeAt(0, 61, 1)", x.routeAt(0, 61, 1), 2);
        CHECK.refused(x, "routeAt(3, 5, 1)", x.routeAt(3, 5, 1), 1);
        CHECK.refused(x, "routeAt(0, 5, 0)", x.routeAt(0, 5, 0), 1);
        CHECK.refused(x, "routeAt(0, 5, 6)", x.routeAt(0, 5, 6), 1);
        CHECK.refused(x, "routeAt(0, 5, -1)", x.routeAt(0, 5, -1), 1);
        CHECK.taken(x, "routeAt(0, 60, 60)", x.routeAt(0, 60, 60) >= 0 ? 1 : 0, 1);
        CHECK.taken(x, "guard(60)", x.guard(60), 2);
    }

    private static void routes() {
        WaxTurns x = Check.with(Galleries.FIVE);
        CHECK.taken(x, "route(0, 4)", x.route(0, 4), 4);
        CHECK.taken(x, "route(2, 6)", x.route(2, 6), 4);
        int[] way = {1, 0, 0, 0, 1, 2};
        for (int i = 1; i <= 6; i++) {
            CHECK.taken(x, "routeAt(2, 6, " + i + ")", x.routeAt(2, 6, i), way[i - 1]);
        }
        CHECK.taken(x, "route(4, 3), never there", x.route(4, 3), 0);
        CHECK.taken(x, "routeAt(4, 3, 3), he stays", x.routeAt(4, 3, 3), 4);
        x.go(4);
        CHECK.taken(x, "route(2, 4), from there", x.route(2, 4), 4);
        CHECK.taken(x, "route(0, 4), from there", x.route(0, 4), 3);
        // He catches nobody: figure 1 walks on past him.
        WaxTurns y = Check.with("gallery figures 5 span 9 stairs 4 shut 0;law times 1 plus 0 first 1;"
            + "figure a is 1 walks 1");
        CHECK.taken(y, "route(1, 3)", y.route(1, 3), 2);
        CHECK.taken(y, "routeAt(1, 3, 1)", y.routeAt(1, 3, 1), 2);
        CHECK.taken(y, "routeAt(1, 3, 2)", y.routeAt(1, 3, 2), 3);
        CHECK.taken(y, "routeAt(1, 3, 3), it is gone then", y.routeAt(1, 3, 3), 3);
    }

    private static void stayingThenDownThenUp() {
        // The turns are 1 and 4: from 2 down to the one is as good as up to the other.
        WaxTurns x = Check.with("gallery figures 5 span 1 stairs 0 shut 0;law times 1 plus 3 first 1");
        CHECK.taken(x, "route(2, 2)", x.route(2, 2), 1);
        CHECK.taken(x, "routeAt(2, 2, 1), down", x.routeAt(2, 2, 1), 1);
        CHECK.taken(x, "routeAt(2, 2, 2), stays", x.routeAt(2, 2, 2), 1);
        CHECK.taken(x, "route(3, 2)", x.route(3, 2), 1);
        CHECK.taken(x, "routeAt(3, 2, 1), stays at first", x.routeAt(3, 2, 1), 3);
        CHECK.taken(x, "routeAt(3, 2, 2), up", x.routeAt(3, 2, 2), 4);
    }

    private static void notWithTheGone() {
        WaxTurns x = Check.with("gallery figures 3 span 4 stairs 2 shut 0;law times 1 plus 0 first 1;"
            + "figure a is 1 walks 2");
        // It stands in the first minute and is gone in the second.
        CHECK.taken(x, "route(1, 4)", x.route(1, 4), 1);
        CHECK.taken(x, "route(2, 4)", x.route(2, 4), 1);
        CHECK.taken(x, "routeAt(2, 4, 1)", x.routeAt(2, 4, 1), 1);
        CHECK.taken(x, "routeAt(2, 4, 4)", x.routeAt(2, 4, 4), 1);
        x.go(2);
        CHECK.taken(x, "route(2, 60)", x.route(2, 60), 0);
    }

    private static void stands() {
        WaxTurns x = Check.with(Galleries.FIVE);
        CHECK.taken(x, "stand(6)", x.stand(6), 0);
        x.go(6);
        CHECK.taken(x, "stand(1)", x.stand(1), 1);
        x.go(2);
        CHECK.taken(x, "stand(4)", x.stand(4), 3);
        WaxTurns y = Check.with(Galleries.SETTLING);
        CHECK.taken(y, "stand(1), also from next to it", y.stand(1), 1);
        CHECK.taken(y, "stand(2)", y.stand(2), 1);
    }

    private static void guards() {
        WaxTurns x = Check.with(Galleries.THREE);
        CHECK.taken(x, "guard(6), nobody comes there then", x.guard(6), 0);
        CHECK.taken(x, "guard(7)", x.guard(7), 2);
        x.go(6);
        CHECK.taken(x, "guard(1), only the stairs are left", x.guard(1), 4);
        x.go(1);
        CHECK.taken(x, "guard(60), it is gone already", x.guard(60), 0);
        // From both sides: one at the stairs between.
        WaxTurns y = Check.with("gallery figures 5 span 3 stairs 2 shut 0;law times 1 plus 1 first 0;"
            + "figure a is 0 walks 1;figure b is 4 walks 1");
        CHECK.taken(y, "guard(3), a alone", y.guard(3), 2);
        CHECK.taken(y, "guard(60)", y.guard(60), 4);
        WaxTurns z = Check.with("gallery figures 5 span 3 stairs 2 shut 0;law times 1 plus 1 first 0;"
            + "figure a is 0 walks 1;figure b is 4 walks 1;watcher w from 3 to 3");
        CHECK.taken(z, "guard(60), besides a watcher", z.guard(60), 2);
    }

    private static void winding() {
        WaxTurns x = Check.with(Galleries.THREE);
        CHECK.taken(x, "windBest(), 7, 11, 9 minutes", x.windBest(), 1);
        CHECK.due("size(11)", x.size(11), 0);
        WaxTurns y = Check.with(Galleries.FIVE);
        CHECK.taken(y, "windBest(), never by any", y.windBest(), 0);
        // Behind whoever is wound up comes figure 1.
        WaxTurns z = Check.with("gallery figures 3 span 3 stairs 2 shut 0;law times 0 plus 1 first 0;"
            + "figure a is 0 walks 2;figure b is 1 walks 3;figure c is 2 walks 2");
        CHECK.taken(z, "windBest(), 6, 3, 2 minutes", z.windBest(), 0);
        z.go(2);
        CHECK.taken(z, "stairs()", z.stairs(), 4);
        CHECK.taken(z, "windBest(), 2, 3, 2 minutes", z.windBest(), 1);
        WaxTurns anew = Check.with("gallery figures 3 span 3 stairs 2 shut 0;law times 0 plus 1 first 0;"
            + "figure b is 1 walks 1");
        anew.go(2);
        CHECK.taken(anew, "stairs()", anew.stairs(), 2);
        CHECK.taken(anew, "windBest(), its own turn from anew", anew.windBest(), 0);
        // 260, 300, never, 280 minutes, and never by the others.
        WaxTurns late = Check.with("gallery figures 7 span 20 stairs 5 shut 0;law times 2 plus 1 first 1;"
            + "figure a is 0 walks 20");
        CHECK.taken(late, "windBest(), never is more than 300", late.windBest(), 2);
        WaxTurns never = Check.with("gallery figures 3 span 1 stairs 2 shut 0;law times 1 plus 0 first 0;"
            + "figure a is 0 walks 1;figure b is 1 walks 1;watcher w from 0 to 0");
        CHECK.taken(never, "windBest(), the stiff one never", never.windBest(), 2);
    }

    private static void patrols() {
        WaxTurns x = Check.with(Galleries.THREE);
        CHECK.taken(x, "patrol(0, 7)", x.patrol(0, 7), 11);
        CHECK.taken(x, "patrol(0, 1), at 1 in minute 0", x.patrol(0, 1), 10);
        CHECK.due("watcher(0, 1) is as it was", x.watcher(0, 1), 2);
        x.go(1);
        CHECK.taken(x, "patrol(0, 1), at 1 in minute 1", x.patrol(0, 1), 1);
        // Gone first: fewest; caught only then.
        WaxTurns y = Check.with("gallery figures 3 span 2 stairs 1 shut 0;law times 1 plus 1 first 0;"
            + "figure a is 0 walks 1;watcher v from 2 to 2;watcher w from 0 to 0");
        CHECK.taken(y, "patrol(1, 2)", y.patrol(1, 2), 11);
        CHECK.taken(y, "patrol(0, 2)", y.patrol(0, 2), 11);
        y.go(1);
        CHECK.taken(y, "patrol(0, 60), gone already, none can be caught", y.patrol(0, 60), 0);
    }
}
