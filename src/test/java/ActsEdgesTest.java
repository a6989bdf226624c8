/** The boundaries that the terms (III: ACTS) and the promises 51 to 56 name, sentence by sentence. */
public final class ActsEdgesTest {
    private static final int TERMS = Document.TERMS;
    private static final Check CHECK = new Check("ActsEdgesTest");
    private static final int[] NO_FIGURES = {-1, 3, Integer.MIN_VALUE, Integer.MAX_VALUE};

    private ActsEdgesTest() {
    }

    public static void main(String[] args) {
        acts();
        undoTerms();
        imageTerms();
        go();
        noRoomToGo();
        put();
        wind();
        undo();
        image();
        back();
        notPromised();
        CHECK.end();
    }

    // ---- terms, III

    private static void acts() {
        CHECK.sentence(TERMS, "ACTS: GO so many minutes, PUT a figure back to its OWN PLACE, WIND one up (the TURN that goes on "
            + "ends, a new one begins with it).");
        WaxTurns x = Check.with(Galleries.THREE);
        x.go(2);
        CHECK.due("size(11)", x.size(11), 1);
        x.put(0);
        CHECK.due("size(11)", x.size(11), 2);
        CHECK.due("figure(0, 2)", x.figure(0, 2), 0);
        CHECK.due("size(10), no minute goes by", x.size(10), 2);
        CHECK.due("alive(), the TURN goes on", x.alive(), 1);
        x.wind(2);
        CHECK.due("size(11)", x.size(11), 3);
        CHECK.due("size(10), no minute goes by", x.size(10), 2);
        CHECK.due("alive()", x.alive(), 2);
        CHECK.due("left(), a whole one", x.left(), 2);
        CHECK.due("turnOf(1), by the law from there", x.turnOf(1), 0);
    }

    private static void undoTerms() {
        CHECK.sentence(TERMS, "UNDO: the latest (16 are kept).");
        WaxTurns x = Check.with(Galleries.FIVE);
        for (int i = 1; i <= 16; i++) {
            x.go(1);
        }
        CHECK.due("size(11), 16", x.size(11), 16);
        x.go(1);
        CHECK.due("size(11), no more than 16", x.size(11), 16);
        for (int i = 16; i >= 1; i--) {
            CHECK.due("undo()", x.undo(), true);
            CHECK.due("size(10), the latest first", x.size(10), i);
            CHECK.due("size(11)", x.size(11), i - 1);
        }
        CHECK.due("undo(), the 17th isn't kept", x.undo(), false);
        CHECK.due("trouble()", x.trouble(), 6);
        CHECK.due("size(10)", x.size(10), 1);
        WaxTurns y = Check.with(Galleries.FIVE);
        for (int i = 1; i <= 16; i++) {
            y.go(1);
        }
        for (int i = 15; i >= 0; i--) {
            CHECK.due("undo()", y.undo(), true);
            CHECK.due("size(10)", y.size(10), i);
        }
        CHECK.due("undo(), all 16 are undone", y.undo(), false);
    }

    private static void imageTerms() {
        CHECK.sentence(TERMS, "IMAGES: up to 3; gone back to one, nothing can be undone.");
        WaxTurns x = Check.with(Galleries.FIVE);
        for (int i = 0; i < 3; i++) {
            CHECK.taken(x, "image()", x.image(), i);
            x.go(1);
        }
        CHECK.refused(x, "image(), the fourth", x.image(), 3);
        CHECK.due("size(12)", x.size(12), 3);
        CHECK.due("size(11)", x.size(11), 3);
        CHECK.due("back(2)", x.back(2), true);
        CHECK.due("size(11)", x.size(11), 0);
        CHECK.due("undo()", x.undo(), false);
        CHECK.due("trouble()", x.trouble(), 6);
        CHECK.due("size(10)", x.size(10), 2);
        x.go(1);
        CHECK.due("size(11), what comes behind it can", x.size(11), 1);
        CHECK.due("undo()", x.undo(), true);
        CHECK.due("size(10)", x.size(10), 2);
        CHECK.due("undo()", x.undo(), false);
    }

    // ---- promises 51 to 56

    private static void go() {
        CHECK.sentence(51, "GO (1 .. 60 minutes): figures that come to be GONE, as bits.");
        WaxTurns x = Check.with(Galleries.THREE);
        CHECK.taken(x, "go(1)", x.go(1), 0);
        CHECK.due("size(10)", x.size(10), 1);
        CHECK.taken(x, "go(60)", x.go(60), 1);
        CHECK.due("size(10)", x.size(10), 61);
        CHECK.taken(x, "go(60), gone before", x.go(60), 0);
        WaxTurns all = Check.with("gallery figures 9 span 1 stairs 8 shut 0;law times 1 plus 1 first 0;figure a is 7 walks 1;"
            + "figure b is 8 walks 1");
        CHECK.taken(all, "go(9), the last two", all.go(9), 384);
        CHECK.sentence(51, "NONE: 1 (no GALLERY); 2");
        WaxTurns y = Check.with(Galleries.THREE);
        y.go(2);
        for (int n : new int[] {0, -1, 61, Integer.MIN_VALUE, Integer.MAX_VALUE}) {
            CHECK.refusedWhole(y, "go(" + n + ")", () -> y.go(n), 2);
        }
        WaxTurns none = new WaxTurns();
        CHECK.refusedWhole(none, "go(1), no GALLERY", () -> none.go(1), 1);
        CHECK.refusedWhole(none, "go(0), no GALLERY", () -> none.go(0), 1);
    }

    private static void noRoomToGo() {
        CHECK.sentence(51, "3 (it would be more than 9,999 in all)");
        WaxTurns x = Check.with(Galleries.THREE);
        for (int i = 0; i < 166; i++) {
            x.go(60);
        }
        CHECK.due("size(10)", x.size(10), 9960);
        CHECK.refusedWhole(x, "go(40), 10,000", () -> x.go(40), 3);
        CHECK.refused(x, "go(60)", x.go(60), 3);
        CHECK.refused(x, "go(61), a number first", x.go(61), 2);
        CHECK.taken(x, "go(39), 9,999", x.go(39), 0);
        CHECK.due("size(10)", x.size(10), 9999);
        CHECK.refusedWhole(x, "go(1)", () -> x.go(1), 3);
        CHECK.refused(x, "go(0), a number first", x.go(0), 2);
        // Looking ahead goes on beyond: minute 9,999 is odd, and the watcher is at 2 then.
        CHECK.taken(x, "watch(0, 1)", x.watch(0, 1), 2);
        CHECK.taken(x, "watch(0, 300)", x.watch(0, 300), 1);
        CHECK.taken(x, "place(0, 300)", x.place(0, 300), 2);
        CHECK.taken(x, "wind(1), no minute more", x.wind(1), 1);
        CHECK.due("undo()", x.undo(), true);
        CHECK.due("undo()", x.undo(), true);
        CHECK.taken(x, "go(39), there is room again", x.go(39), 0);
    }

    private static void put() {
        CHECK.sentence(52, "PUT: the PLACE it was at.");
        WaxTurns x = Check.with("gallery figures 9 span 20 stairs 8 shut 0;law times 0 plus 0 first 0;figure a is 0 walks 1");
        x.go(1);
        CHECK.taken(x, "put(0), a PLACE away", x.put(0), 1);
        CHECK.due("figure(0, 2)", x.figure(0, 2), 0);
        x.go(7);
        CHECK.taken(x, "put(0), next to the stairs", x.put(0), 7);
        x.go(1);
        CHECK.due("figure(0, 2), it goes on from there", x.figure(0, 2), 1);
        WaxTurns down = Check.with("gallery figures 3 span 20 stairs 0 shut 0;law times 0 plus 2 first 2;"
            + "figure a is 2 walks 1;watcher w from 1 to 2");
        // Minute 0: caught at 1; minute 1: he is at 2, it comes to 1.
        down.go(2);
        CHECK.taken(down, "put(2)", down.put(2), 1);
        CHECK.taken(down, "caught(), PUT is not CAUGHT", down.caught(), 1);
        CHECK.sentence(52, "NONE: 1; 5 (it is GONE, or there).");
        WaxTurns y = Check.with(Galleries.THREE);
        for (int f : NO_FIGURES) {
            CHECK.refused(y, "put(" + f + ")", y.put(f), 1);
        }
        CHECK.refusedWhole(y, "put(0), it is there", () -> y.put(0), 5);
        CHECK.refusedWhole(y, "put(1), stiff", () -> y.put(1), 5);
        y.go(7);
        CHECK.refusedWhole(y, "put(0), it is gone", () -> y.put(0), 5);
        WaxTurns own = Check.with("gallery figures 2 span 1 stairs 1 shut 0;law times 0 plus 1 first 1;figure a is 1 walks 1");
        own.go(1);
        CHECK.refused(own, "put(1), gone from its OWN PLACE", own.put(1), 5);
        WaxTurns none = new WaxTurns();
        CHECK.refusedWhole(none, "put(0), no GALLERY", () -> none.put(0), 1);
    }

    private static void wind() {
        CHECK.sentence(53, "WIND: whose TURN it was.");
        WaxTurns x = Check.with(Galleries.THREE);
        CHECK.taken(x, "wind(1), ahead of the first minute", x.wind(1), 0);
        x.go(1);
        CHECK.taken(x, "wind(2), within a TURN", x.wind(2), 1);
        x.go(1);
        CHECK.taken(x, "wind(2), its own, from anew", x.wind(2), 2);
        CHECK.due("left()", x.left(), 2);
        CHECK.sentence(53, "NONE: 1; 5 (a new TURN of it begins anyhow).");
        for (int f : NO_FIGURES) {
            CHECK.refused(x, "wind(" + f + ")", x.wind(f), 1);
        }
        CHECK.refusedWhole(x, "wind(2), just wound up", () -> x.wind(2), 5);
        x.go(2);
        CHECK.refusedWhole(x, "wind(0), its TURN is next by the law", () -> x.wind(0), 5);
        x.go(1);
        CHECK.taken(x, "wind(0), it has begun", x.wind(0), 0);
        WaxTurns y = Check.with(Galleries.THREE);
        CHECK.refusedWhole(y, "wind(0), the first of all", () -> y.wind(0), 5);
        // In TURNS of a minute each begins anew.
        WaxTurns one = Check.with(Galleries.SETTLING);
        one.go(5);
        CHECK.refused(one, "wind(3), always it", one.wind(3), 5);
        CHECK.taken(one, "wind(2)", one.wind(2), 3);
        WaxTurns none = new WaxTurns();
        CHECK.refusedWhole(none, "wind(0), no GALLERY", () -> none.wind(0), 1);
    }

    private static void undo() {
        CHECK.sentence(54, "UNDO: true; false: 6.");
        WaxTurns none = new WaxTurns();
        CHECK.due("undo(), no GALLERY", none.undo(), false);
        CHECK.due("trouble()", none.trouble(), 6);
        WaxTurns x = Check.with(Galleries.THREE);
        CHECK.due("undo(), no ACT", x.undo(), false);
        CHECK.due("trouble()", x.trouble(), 6);
        String first = Check.state(x);
        x.go(7);
        CHECK.due("undo()", x.undo(), true);
        CHECK.due("trouble()", x.trouble(), 0);
        CHECK.due("all as ahead of it", Check.state(x).equals(first), true);
        CHECK.due("undo() once more", x.undo(), false);
        CHECK.due("trouble()", x.trouble(), 6);
        // A refused ACT is none that can be undone.
        x.go(61);
        x.put(0);
        x.wind(0);
        CHECK.due("undo() of refused ones", x.undo(), false);
        // An IMAGE isn't undone.
        x.image();
        CHECK.due("undo() of an IMAGE", x.undo(), false);
        CHECK.due("size(12)", x.size(12), 1);
        // Each of put and wind is undone whole.
        WaxTurns y = Check.with(Galleries.THREE);
        y.go(3);
        String behind = Check.state(y);
        y.put(0);
        y.undo();
        CHECK.due("put undone", Check.state(y).equals(behind), true);
        y.wind(0);
        y.undo();
        CHECK.due("wind undone", Check.state(y).equals(behind), true);
    }

    private static void image() {
        CHECK.sentence(55, "An IMAGE: its number. NONE: 1 (no GALLERY); 3.");
        WaxTurns none = new WaxTurns();
        CHECK.refusedWhole(none, "image(), no GALLERY", () -> none.image(), 1);
        WaxTurns x = Check.with(Galleries.THREE);
        CHECK.taken(x, "image()", x.image(), 0);
        CHECK.taken(x, "image()", x.image(), 1);
        CHECK.taken(x, "image()", x.image(), 2);
        CHECK.refusedWhole(x, "image(), no room", x::image, 3);
        x.go(1);
        x.undo();
        CHECK.refused(x, "image(), undoing makes no room", x.image(), 3);
        x.back(0);
        CHECK.refused(x, "image(), nor does going back", x.image(), 3);
        Check.tell(x, Galleries.THREE);
        CHECK.taken(x, "image(), a new GALLERY does", x.image(), 0);
    }

    private static void back() {
        CHECK.sentence(56, "All is as by an IMAGE (all IMAGES stay): true");
        WaxTurns x = Check.with(Galleries.THREE);
        x.image();
        x.go(7);
        x.image();
        x.wind(1);
        x.go(3);
        CHECK.due("back(0)", x.back(0), true);
        CHECK.due("trouble()", x.trouble(), 0);
        CHECK.due("size(10)", x.size(10), 0);
        CHECK.due("size(12), all stay", x.size(12), 2);
        CHECK.due("figure(0, 3), not gone", x.figure(0, 3), 0);
        CHECK.due("back(1), a later one", x.back(1), true);
        CHECK.due("size(10)", x.size(10), 7);
        CHECK.due("size(11)", x.size(11), 0);
        CHECK.due("alive()", x.alive(), 0);
        CHECK.due("left()", x.left(), 1);
        CHECK.due("caught()", x.caught(), 1);
        CHECK.due("figure(0, 2)", x.figure(0, 2), 2);
        CHECK.due("figure(0, 3)", x.figure(0, 3), 1);
        CHECK.due("back(1) again", x.back(1), true);
        CHECK.due("size(12)", x.size(12), 2);
        CHECK.sentence(56, "false: 1.");
        x.go(1);
        String before = Check.state(x);
        for (int i : new int[] {-1, 2, 3, Integer.MIN_VALUE, Integer.MAX_VALUE}) {
            CHECK.due("back(" + i + ")", x.back(i), false);
            CHECK.due("trouble()", x.trouble(), 1);
        }
        CHECK.due("all stays", Check.state(x).equals(before), true);
        CHECK.due("size(11), nor is anything forgotten", x.size(11), 1);
        WaxTurns y = Check.with(Galleries.THREE);
        CHECK.due("back(0), there is none", y.back(0), false);
        CHECK.due("trouble()", y.trouble(), 1);
        WaxTurns none = new WaxTurns();
        CHECK.due("back(0), no GALLERY", none.back(0), false);
        CHECK.due("trouble()", none.trouble(), 1);
    }

    private static void notPromised() {
        CHECK.sentence(Document.BEHIND_PROMISES, "nothing about an object after its 512th call");
        // Nothing is due there; but the class throws nothing by itself even then.
        WaxTurns x = Check.with(Galleries.THREE);
        for (int i = 0; i < 2000; i++) {
            x.go(1 + i % 60);
            x.feed(i, i, i, i, i);
            x.image();
        }
        CHECK.due("size(0)", x.size(0), 3);
    }
}
