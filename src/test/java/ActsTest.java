/** Promises 51 to 56: go, put, wind, undo, image, back. */
public final class ActsTest {
    private static final Check CHECK = new Check("ActsTest");

    private ActsTest() {
    }

    public static void main(String[] args) {
        withoutGallery();
        going();
        upTo9999();
        putting();
        winding();
        undoing();
        sixteen();
        images();
        CHECK.end();
    }

    private static void withoutGallery() {
        WaxTurns x = new WaxTurns();
        CHECK.refused(x, "go(0)", x.go(0), 1);
        CHECK.refused(x, "put(0)", x.put(0), 1);
        CHECK.refused(x, "wind(0)", x.wind(0), 1);
        CHECK.refused(x, "image()", x.image(), 1);
        CHECK.due("undo()", x.undo(), false);
        CHECK.due("trouble()", x.trouble(), 6);
        CHECK.due("back(0)", x.back(0), false);
        CHECK.due("trouble()", x.trouble(), 1);
    }

    private static void going() {
        WaxTurns x = Check.with(Galleries.THREE);
        for (int n : new int[] {0, -1, 61, Integer.MIN_VALUE, Integer.MAX_VALUE}) {
            CHECK.refused(x, "go(" + n + ")", x.go(n), 2);
        }
        CHECK.due("size(10)", x.size(10), 0);
        CHECK.due("size(11)", x.size(11), 0);
        CHECK.taken(x, "go(6)", x.go(6), 0);
        CHECK.taken(x, "go(1)", x.go(1), 1);
        CHECK.taken(x, "go(60), it was gone before", x.go(60), 0);
        CHECK.due("size(10)", x.size(10), 67);
        CHECK.due("caught()", x.caught(), 1);
        WaxTurns y = Check.with("gallery figures 4 span 1 stairs 2 shut 0;law times 1 plus 1 first 0;"
            + "figure a is 0 walks 1;figure b is 2 walks 1;figure c is 3 walks 1");
        CHECK.taken(y, "go(4)", y.go(4), 12);
        CHECK.taken(y, "go(1)", y.go(1), 1);
    }

    private static void upTo9999() {
        WaxTurns x = Check.with(Galleries.FIVE);
        for (int i = 0; i < 166; i++) {
            x.go(60);
        }
        CHECK.due("size(10)", x.size(10), 9960);
        CHECK.refused(x, "go(40)", x.go(40), 3);
        CHECK.refused(x, "go(61)", x.go(61), 2);
        CHECK.due("size(10)", x.size(10), 9960);
        CHECK.taken(x, "go(39)", x.go(39), 0);
        CHECK.due("size(10)", x.size(10), 9999);
        CHECK.refused(x, "go(1)", x.go(1), 3);
        CHECK.taken(x, "watch(0, 300)", x.watch(0, 300), 2);
        CHECK.taken(x, "alive()", x.alive(), 3);
        CHECK.taken(x, "left()", x.left(), 1);
        CHECK.due("undo()", x.undo(), true);
        CHECK.due("size(10)", x.size(10), 9960);
    }

    private static void putting() {
        WaxTurns x = Check.with(Galleries.THREE);
        CHECK.refused(x, "put(0), it is there", x.put(0), 5);
        CHECK.refused(x, "put(3)", x.put(3), 1);
        CHECK.refused(x, "put(-1)", x.put(-1), 1);
        CHECK.due("size(11)", x.size(11), 0);
        x.go(2);
        CHECK.taken(x, "put(0)", x.put(0), 1);
        CHECK.due("figure(0, 2)", x.figure(0, 2), 0);
        CHECK.due("size(10), no minute goes by", x.size(10), 2);
        CHECK.due("size(11)", x.size(11), 2);
        CHECK.due("caught(), it wasn't", x.caught(), 1);
        CHECK.refused(x, "put(0), it is there again", x.put(0), 5);
        x.undo();
        x.go(5);
        CHECK.refused(x, "put(0), gone", x.put(0), 5);
    }

    private static void winding() {
        WaxTurns x = Check.with(Galleries.FIVE);
        CHECK.refused(x, "wind(0), it begins anyhow", x.wind(0), 5);
        CHECK.refused(x, "wind(5)", x.wind(5), 1);
        CHECK.refused(x, "wind(-1)", x.wind(-1), 1);
        CHECK.due("size(11)", x.size(11), 0);
        CHECK.taken(x, "wind(3), ahead of the first minute", x.wind(3), 0);
        CHECK.due("alive()", x.alive(), 3);
        CHECK.due("left()", x.left(), 4);
        CHECK.refused(x, "wind(3)", x.wind(3), 5);
        x.go(1);
        CHECK.due("left()", x.left(), 3);
        CHECK.taken(x, "wind(3), its own turn from anew", x.wind(3), 3);
        CHECK.due("left()", x.left(), 4);
        CHECK.due("size(10)", x.size(10), 1);
        x.go(4);
        CHECK.due("alive(), by the law from there", x.alive(), 0);
        CHECK.refused(x, "wind(0), its turn is next", x.wind(0), 5);
        CHECK.taken(x, "wind(3)", x.wind(3), 0);
        WaxTurns y = Check.with(Galleries.THREE);
        y.go(7);
        CHECK.taken(y, "wind(0), gone", y.wind(0), 0);
        CHECK.due("left()", y.left(), 2);
    }

    private static void undoing() {
        WaxTurns x = Check.with(Galleries.FIVE);
        x.go(13);
        x.go(3);
        x.put(1);
        x.wind(2);
        CHECK.due("size(11)", x.size(11), 4);
        CHECK.due("undo() of wind", x.undo(), true);
        CHECK.due("alive()", x.alive(), 3);
        CHECK.due("left()", x.left(), 4);
        CHECK.due("undo() of put", x.undo(), true);
        CHECK.due("figure(1, 2)", x.figure(1, 2), 2);
        CHECK.due("undo() of go", x.undo(), true);
        CHECK.due("size(10)", x.size(10), 13);
        CHECK.due("caught()", x.caught(), 2);
        CHECK.due("figure(4, 4)", x.figure(4, 4), 7);
        CHECK.due("alive()", x.alive(), 1);
        CHECK.due("left()", x.left(), 3);
        CHECK.due("size(11)", x.size(11), 1);
        CHECK.due("undo() of the first", x.undo(), true);
        CHECK.due("trouble()", x.trouble(), 0);
        CHECK.due("figure(4, 4)", x.figure(4, 4), 0);
        CHECK.due("caught()", x.caught(), 0);
        CHECK.due("undo(), there is none", x.undo(), false);
        CHECK.due("trouble()", x.trouble(), 6);
        WaxTurns y = Check.with(Galleries.THREE);
        y.go(7);
        y.undo();
        CHECK.due("gone(0)", y.gone(0), 0);
        CHECK.due("go(7) once more", y.go(7), 1);
    }

    private static void sixteen() {
        WaxTurns x = Check.with(Galleries.FIVE);
        for (int i = 1; i <= 20; i++) {
            x.go(i);
            CHECK.due("size(11) behind " + i, x.size(11), Math.min(i, 16));
        }
        for (int i = 20; i > 4; i--) {
            CHECK.due("undo() of " + i, x.undo(), true);
            CHECK.due("size(10)", x.size(10), i * (i - 1) / 2);
        }
        CHECK.due("undo(), only 16 are kept", x.undo(), false);
        CHECK.due("trouble()", x.trouble(), 6);
        CHECK.due("size(10)", x.size(10), 10);
        x.go(1);
        CHECK.due("size(11)", x.size(11), 1);
        CHECK.due("undo()", x.undo(), true);
        CHECK.due("size(10)", x.size(10), 10);
    }

    private static void images() {
        WaxTurns x = Check.with(Galleries.FIVE);
        CHECK.taken(x, "image()", x.image(), 0);
        x.go(14);
        CHECK.taken(x, "image()", x.image(), 1);
        CHECK.due("size(11), an image is no act", x.size(11), 1);
        x.wind(4);
        x.go(6);
        CHECK.taken(x, "image()", x.image(), 2);
        CHECK.refused(x, "image(), no room", x.image(), 3);
        CHECK.due("size(12)", x.size(12), 3);
        for (int i : new int[] {-1, 3, Integer.MIN_VALUE, Integer.MAX_VALUE}) {
            CHECK.due("back(" + i + ")", x.back(i), false);
            CHECK.due("trouble()", x.trouble(), 1);
        }
        CHECK.due("size(11)", x.size(11), 3);
        CHECK.due("back(1)", x.back(1), true);
        CHECK.due("trouble()", x.trouble(), 0);
        CHECK.due("size(10)", x.size(10), 14);
        CHECK.due("alive()", x.alive(), 1);
        CHECK.due("left()", x.left(), 2);
        CHECK.due("caught()", x.caught(), 3);
        CHECK.due("figure(4, 4)", x.figure(4, 4), 7);
        CHECK.due("size(11)", x.size(11), 0);
        CHECK.due("undo(), nothing can be", x.undo(), false);
        CHECK.due("size(12), all stay", x.size(12), 3);
        x.go(1);
        CHECK.due("back(2), a later one", x.back(2), true);
        CHECK.due("size(10)", x.size(10), 20);
        CHECK.due("back(0)", x.back(0), true);
        CHECK.due("size(10)", x.size(10), 0);
        CHECK.due("caught()", x.caught(), 0);
        x.go(5);
        CHECK.due("back(0), it is as it was", x.back(0), true);
        CHECK.due("size(10)", x.size(10), 0);
        // Undoing leaves images as they are.
        x.go(1);
        x.undo();
        CHECK.due("size(12)", x.size(12), 3);
    }
}
