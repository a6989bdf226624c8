/** Promises 1 to 5: a new object, feed, gallery, fault, where. */
public final class TextTest {
    private static final String HALL = "gallery figures 3 span 2 stairs 0 shut 0";
    private static final String SOUND = HALL + ";law times 0 plus 0 first 0";
    private static final String NINE = "gallery figures 9 span 20 stairs 8 shut 100;law times 8 plus 8 first 8;"
        + "figure a is 0 walks 1;figure b is 1 walks 20;figure c is 2 speaks 1;figure d is 3 speaks 20;"
        + "figure e is 4 walks 2;figure f is 5 walks 2;figure g is 6 walks 2;figure h is 7 walks 2;"
        + "figure i is 8 walks 2";
    private static final Check CHECK = new Check("TextTest");

    private TextTest() {
    }

    public static void main(String[] args) {
        newObject();
        feeding();
        refusedNumbers();
        soundTexts();
        form();
        toldAgain();
        bounds();
        many();
        lacks();
        firstFromTheLeft();
        whatStays();
        CHECK.end();
    }

    private static void newObject() {
        WaxTurns x = new WaxTurns();
        for (int what = 0; what <= 13; what++) {
            CHECK.due("size(" + what + ") of a new object", x.size(what), 0);
        }
        CHECK.due("trouble()", x.trouble(), 0);
        CHECK.due("fault()", x.fault(), 0);
        CHECK.due("where()", x.where(), -1);
        CHECK.refused(x, "alive()", x.alive(), 1);
    }

    private static void feeding() {
        WaxTurns x = new WaxTurns();
        for (int i = 1; i <= 45; i++) {
            CHECK.due("feed", x.feed(0, 0, 0, 0, 0), 20 * i);
        }
        x.alive();
        CHECK.due("feed over 900", x.feed(1, 2, 3, 4, 5), -1);
        CHECK.due("size(13)", x.size(13), 900);
        CHECK.due("trouble() is not feed's", x.trouble(), 1);
        CHECK.refused(x, "gallery(901)", x.gallery(901), 2);
        CHECK.refused(x, "gallery(900)", x.gallery(900), 4);
        CHECK.due("feed anew", x.feed(0, 0, 0, 0, 0), 20);

        // "law " is 1818326816: the highest byte comes first, and -1 is four bytes of 255.
        WaxTurns y = new WaxTurns();
        y.feed(1818326816, -1, -1, -1, -1);
        CHECK.due("gallery(3) of law", y.gallery(3), -1);
        CHECK.due("fault()", y.fault(), 6);
        y.feed(-1, 1818326816, 0, 0, 0);
        y.gallery(4);
        CHECK.due("fault() of a byte of 255", y.fault(), 1);

        WaxTurns z = new WaxTurns();
        CHECK.due("a text of 900 bytes", Check.tell(z, SOUND + " ".repeat(900 - SOUND.length())), 3);
    }

    private static void refusedNumbers() {
        WaxTurns x = new WaxTurns();
        CHECK.refused(x, "gallery(1), nothing fed", x.gallery(1), 2);
        Check.feedText(x, SOUND);
        int fed = x.size(13);
        CHECK.refused(x, "gallery(-1)", x.gallery(-1), 2);
        CHECK.refused(x, "gallery of the least number", x.gallery(Integer.MIN_VALUE), 2);
        CHECK.refused(x, "gallery of one more", x.gallery(fed + 1), 2);
        CHECK.due("THE TAPE stays", x.size(13), fed);
        CHECK.due("where()", x.where(), -1);
        CHECK.taken(x, "gallery", x.gallery(fed), 3);
        CHECK.due("THE TAPE is empty", x.size(13), 0);
        faulty("", 1, 0);
    }

    private static void soundTexts() {
        sound(SOUND, 3);
        sound("  " + SOUND + "  ", 3);
        sound("gallery figures3span2stairs0shut0 ; law times0plus0first0", 3);
        sound("gallery figures 002 span 020 stairs 001 shut 100;law times 001 plus 01 first 1", 2);
        sound(HALL + ";watcher is from 0 to 2;seen 1 at 999;figure walks is 0 walks 20;law times 2 plus 2 first 2", 3);
        sound(HALL + ";figure abcdefgh is 2 speaks 20;law times 0 plus 0 first 0", 3);
        sound(NINE, 9);
        sound(SOUND + ";watcher a from 0 to 0;watcher b from 0 to 0;watcher c from 0 to 0", 3);
        sound(SOUND + ";seen 0 at 0;seen 0 at 1;seen 0 at 2;seen 0 at 3;seen 0 at 4;seen 0 at 5", 3);
        // Only the first n bytes count.
        WaxTurns x = new WaxTurns();
        Check.feedText(x, SOUND + " and more !");
        CHECK.taken(x, "gallery of a part", x.gallery(SOUND.length()), 3);
    }

    private static void form() {
        faulty("   ", 1, 3);
        faulty(";", 1, 0);
        faulty("gallery", 1, 7);
        faulty("gallery ", 1, 8);
        faulty("galleryx", 1, 0);
        faulty("gallerys figures", 1, 0);
        faulty("galleries", 1, 0);
        faulty("Gallery", 1, 0);
        faulty("7", 1, 0);
        faulty("gallery ;", 1, 8);
        faulty("gallery figures", 1, 15);
        faulty("gallery figures x", 1, 16);
        faulty("gallery figures 0003", 1, 16);
        faulty("gallery figures -3", 1, 16);
        faulty("gallery figures 3 stairs 0", 1, 18);
        faulty("gallery figures 3\nspan 2", 1, 17);
        faulty("gallery figures 3\tspan 2", 1, 17);
        faulty(HALL + ";", 1, 41);
        faulty(HALL + " ; ", 1, 43);
        faulty(HALL + ";;" + SOUND, 1, 41);
        faulty(HALL + "x", 1, 40);
        faulty(HALL + " law times 0", 1, 41);
        faulty(HALL + ";law", 1, 44);
        faulty(HALL + ";law plus", 1, 45);
        faulty(HALL + ";lawtimes 0", 1, 41);
        faulty(SOUND + ";", 1, 68);
        faulty(SOUND + " ;  ", 1, 71);
        faulty(SOUND + ";stairs", 1, 68);
        faulty(SOUND + ";figure gallery", 1, 75);
        faulty(SOUND + ";figure law", 1, 75);
        faulty(SOUND + ";figure figure", 1, 75);
        faulty(SOUND + ";watcher watcher", 1, 76);
        faulty(SOUND + ";watcher seen", 1, 76);
        faulty(SOUND + ";figure 5", 1, 75);
        faulty(SOUND + ";figure abcdefghi is 1 walks 1", 1, 75);
        faulty(SOUND + ";figure a was", 1, 77);
        faulty(SOUND + ";figure a is one", 1, 80);
        faulty(SOUND + ";figure a is 1 runs 1", 1, 82);
        faulty(SOUND + ";figure a is 1 walks", 1, 87);
        faulty(SOUND + ";figure a is 1 speaks ;", 1, 89);
        faulty(SOUND + ";watcher a to 1", 1, 78);
        faulty(SOUND + ";watcher a from 1 from 1", 1, 85);
        faulty(SOUND + ";seen 1 at 1000", 1, 78);
        faulty(SOUND + ";seen 1 1", 1, 75);
        faulty(SOUND + ";seen", 1, 72);
        faulty(SOUND + ";seen 1", 1, 74);
        faulty(SOUND + ";seen 1 at", 1, 77);
        faulty(SOUND + ";watcher", 1, 75);
        faulty(SOUND + ";watcher a", 1, 77);
        faulty(SOUND + ";watcher a from", 1, 82);
        faulty(SOUND + ";watcher a from 1", 1, 84);
        faulty(SOUND + ";watcher a from 1 to", 1, 87);
        faulty(SOUND + ";figure", 1, 74);
        faulty(SOUND + ";figure a", 1, 76);
        faulty(SOUND + ";figure a is", 1, 79);
        faulty(SOUND + ";figure a is 1", 1, 81);
    }

    private static void toldAgain() {
        String told = SOUND + ";figure f is 1 walks 1;watcher w from 0 to 2";
        int at = told.length() + 1;
        faulty(told + ";figure f", 3, at + 7);
        faulty(told + ";figure w", 3, at + 7);
        faulty(told + ";watcher f", 3, at + 8);
        faulty(told + ";watcher w", 3, at + 8);
        faulty(told + ";figure g is 1", 3, at + 12);
        faulty(told + ";seen 1 at 7;seen 1 at 007", 3, at + 22);
        faulty(told + ";law", 3, at);
        faulty(NINE + ";watcher i", 3, NINE.length() + 9);
        faulty(NINE + ";watcher x from 0 to 0;watcher y from 0 to 0;watcher y", 3, NINE.length() + 53);
        faulty(HALL + ";gallery", 3, 41);
        faulty(told + ";gallery figures 99", 3, at);
        faulty(told + ";figure ff is 2 walks 1;figure fff is 0 walks 1;figure ffff is 2", 3, at + 62);
    }

    private static void bounds() {
        faulty("gallery figures 1", 4, 16);
        faulty("gallery figures 10", 4, 16);
        faulty("gallery figures 9 span 0", 4, 23);
        faulty("gallery figures 9 span 21", 4, 23);
        faulty("gallery figures 9 span 20 stairs 9", 4, 33);
        faulty("gallery figures 9 span 20 stairs 8 shut 101", 4, 40);
        faulty(HALL + ";law times 3", 4, 51);
        faulty(HALL + ";law times 2 plus 3", 4, 58);
        faulty(HALL + ";law times 2 plus 2 first 3", 4, 66);
        faulty(SOUND + ";figure a is 3", 4, 80);
        faulty(SOUND + ";figure a is 2 walks 0", 4, 88);
        faulty(SOUND + ";figure a is 2 walks 21", 4, 88);
        faulty(SOUND + ";figure a is 2 speaks 0", 4, 89);
        faulty(SOUND + ";figure a is 2 speaks 21", 4, 89);
        faulty(SOUND + ";watcher a from 3", 4, 83);
        faulty(SOUND + ";watcher a from 2 to 3", 4, 88);
        faulty(SOUND + ";seen 3", 4, 73);
    }

    private static void many() {
        faulty(NINE + ";figure", 5, NINE.length() + 1);
        faulty(NINE + ";figure a is 0 walks 1", 5, NINE.length() + 1);
        String watched = SOUND + ";watcher a from 0 to 0;watcher b from 0 to 0;watcher c from 0 to 0";
        faulty(watched + ";watcher d from 0 to 0", 5, watched.length() + 1);
        String seen = SOUND + ";seen 0 at 0;seen 0 at 1;seen 0 at 2;seen 0 at 3;seen 0 at 4;seen 0 at 5";
        faulty(seen + ";seen 0 at 6", 5, seen.length() + 1);
    }

    private static void lacks() {
        faulty("law", 6, 0);
        faulty("  law times 0 plus 0 first 0;" + HALL, 6, 2);
        faulty("figure a is 0 walks 1", 6, 0);
        faulty("watcher", 6, 0);
        faulty("seen 9 at 9", 6, 0);
        faulty(HALL, 6, 40);
        faulty(HALL + "  ", 6, 42);
        faulty(HALL + ";watcher a from 0 to 0", 6, 62);
    }

    private static void firstFromTheLeft() {
        faulty("gallery figures 1 span 99 !", 4, 16);
        faulty("gallery figures ! 1", 1, 16);
        faulty("law !", 6, 0);
        faulty(HALL + ";law times 3 plus", 4, 51);
        faulty(HALL + ";seen 1 at 1;seen 3 at 1", 4, 58);
    }

    private static void whatStays() {
        WaxTurns x = Check.with(Galleries.FIVE);
        x.go(14);
        x.image();
        Check.feedText(x, "law");
        CHECK.refused(x, "gallery(3)", x.gallery(3), 4);
        CHECK.due("where()", x.where(), 0);
        CHECK.due("THE TAPE is empty", x.size(13), 0);
        CHECK.due("size(0)", x.size(0), 5);
        CHECK.due("size(10)", x.size(10), 14);
        CHECK.due("size(11)", x.size(11), 1);
        CHECK.due("size(12)", x.size(12), 1);
        CHECK.due("where() stays by calls that are never refused", x.where(), 0);
        x.feed(0, 0, 0, 0, 0);
        CHECK.due("where() stays behind feed", x.where(), 0);
        CHECK.due("caught()", x.caught(), 3);
        CHECK.due("where() goes by a call that was not refused", x.where(), -1);
        CHECK.due("fault() stays", x.fault(), 6);
        CHECK.refused(x, "gallery(21)", x.gallery(21), 2);
        CHECK.due("fault() stays by 2", x.fault(), 6);
        CHECK.due("where() by 2", x.where(), -1);
        x.gallery(20);
        CHECK.due("fault() anew", x.fault(), 1);
        CHECK.taken(x, "gallery", Check.tell(x, Galleries.THREE), 3);
        CHECK.due("fault() of a sound one", x.fault(), 0);
        CHECK.due("size(10)", x.size(10), 0);
        CHECK.due("size(11)", x.size(11), 0);
        CHECK.due("size(12)", x.size(12), 0);
        CHECK.due("size(4)", x.size(4), 1);
        CHECK.due("size(5)", x.size(5), 1);
        CHECK.due("size(6)", x.size(6), 0);
        CHECK.due("figure(2, 0) is stiff again", x.figure(2, 0), 0);
        CHECK.due("caught()", x.caught(), 0);
        CHECK.due("back(0)", x.back(0), false);
        CHECK.due("undo()", x.undo(), false);
    }

    private static void sound(String text, int figures) {
        WaxTurns x = new WaxTurns();
        CHECK.taken(x, "gallery of " + text, Check.tell(x, text), figures);
        CHECK.due("fault() of " + text, x.fault(), 0);
        CHECK.due("where() of " + text, x.where(), -1);
    }

    private static void faulty(String text, int fault, int place) {
        WaxTurns x = new WaxTurns();
        Check.feedText(x, text.isEmpty() ? "x" : text);
        CHECK.refused(x, "gallery of " + text, x.gallery(text.length()), 4);
        CHECK.due("fault() of " + text, x.fault(), fault);
        CHECK.due("where() of " + text, x.where(), place);
        CHECK.due("size(0) of " + text, x.size(0), 0);
        CHECK.due("size(13) of " + text, x.size(13), 0);
    }
}
