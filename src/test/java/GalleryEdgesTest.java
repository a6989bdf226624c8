/** The boundaries that the terms (I) and the promises 1 to 5 name, sentence by sentence: THE TAPE, the text, FAULTS. */
public final class GalleryEdgesTest {
    private static final int TERMS = Document.TERMS;
    private static final String HALL = "gallery figures 3 span 2 stairs 0 shut 0";
    private static final String LAW = ";law times 0 plus 0 first 0";
    private static final String SOUND = HALL + LAW;
    private static final String NINE = "gallery figures 9 span 1 stairs 0 shut 0" + LAW;
    private static final Check CHECK = new Check("GalleryEdgesTest");

    private GalleryEdgesTest() {
    }

    public static void main(String[] args) {
        tape();
        tokens();
        lines();
        galleryLine();
        lawLine();
        figureLine();
        watcherLine();
        seenLine();
        names();
        order();
        formFaults();
        againFaults();
        boundsFaults();
        manyFaults();
        lacksFaults();
        newObject();
        feed();
        gallery();
        fault();
        where();
        CHECK.end();
    }

    // ---- terms, I

    private static void tape() {
        CHECK.sentence(TERMS, "THE TAPE has 900 bytes");
        WaxTurns x = new WaxTurns();
        String full = HALL + " ".repeat(900 - SOUND.length()) + LAW;
        Check.feedText(x, full);
        CHECK.due("size(13)", x.size(13), 900);
        CHECK.taken(x, "gallery(900), the law's end is the last byte", x.gallery(900), 3);
        Check.feedText(x, full);
        CHECK.refused(x, "gallery(899), the last WHOLE is missing", x.gallery(899), 4);
        CHECK.due("fault()", x.fault(), 1);
    }

    private static void tokens() {
        CHECK.sentence(TERMS, "blanks, 32, part TOKENS and mean nothing else");
        sound("   " + HALL.replace(" ", "   ") + "  ;  law times 0 plus 0 first 0   ", 3);
        sound("gallery figures3span2stairs0shut0;law times0plus0first0", 3);
        faulty("gal lery figures 3", 1, 0);
        faulty("gallery figures 2 0", 1, 18);
        for (int other : new int[] {0, 1, 9, 10, 13, 31, 33, 127, 128, 160, 255}) {
            faulty("gallery" + (char) other + "figures 3", 1, 7);
        }
        CHECK.sentence(TERMS, "WORDS of 1 to 8 small letters that stand together");
        sound(SOUND + ";watcher a from 0 to 0", 3);
        sound(SOUND + ";watcher z from 0 to 0", 3);
        sound(SOUND + ";watcher abcdefgh from 0 to 0", 3);
        faulty(SOUND + ";watcher abcdefghi from 0 to 0", 1, 76);
        faulty(SOUND + ";watcher abcdefghabcdefgh from 0 to 0", 1, 76);
        faulty(SOUND + ";watcher A from 0 to 0", 1, 76);
        faulty(SOUND + ";watcher aB from 0 to 0", 1, 77);
        faulty(SOUND + ";watcher ` from 0 to 0", 1, 76);
        faulty(SOUND + ";watcher { from 0 to 0", 1, 76);
        faulty(SOUND + ";watcher a1 from 0 to 0", 1, 77);
        faulty(SOUND + ";watchera from 0 to 0", 1, 68);
        faulty(SOUND + " abcdefghi seen 0 at 0", 1, 68);
        CHECK.sentence(TERMS, "WHOLES of 1 to 3 digits that do");
        sound("gallery figures 3 span 02 stairs 002 shut 100" + LAW, 3);
        faulty("gallery figures 0003", 1, 16);
        faulty("gallery figures 3333", 1, 16);
        faulty("gallery figures 3 span 2 stairs 0 shut 0100", 1, 39);
        faulty(SOUND + " 1234 seen 0 at 0", 1, 68);
        faulty("gallery figures /", 1, 16);
        faulty("gallery figures :", 1, 16);
        faulty("gallery figures -3", 1, 16);
        faulty("gallery figures 3.", 1, 17);
        CHECK.sentence(TERMS, "single ones of ;");
        sound(HALL + ";law times 0 plus 0 first 0;seen 0 at 0", 3);
        faulty(HALL + ";;law times 0 plus 0 first 0", 1, 41);
        faulty(";" + HALL, 1, 0);
        faulty(HALL + ":law times 0 plus 0 first 0", 1, 40);
        faulty(HALL + ",law times 0 plus 0 first 0", 1, 40);
    }

    private static void lines() {
        CHECK.sentence(TERMS, "LINE {; LINE}");
        faulty("", 1, 0);
        faulty(" ", 1, 1);
        faulty(SOUND + ";", 1, 68);
        faulty(SOUND + "; ", 1, 69);
        faulty(HALL + " law times 0 plus 0 first 0", 1, 41);
        faulty(SOUND + " seen 0 at 0", 1, 68);
        faulty(SOUND + ";first 0", 1, 68);
        faulty(SOUND + ";0", 1, 68);
    }

    private static void galleryLine() {
        CHECK.sentence(TERMS, "2 .. 9; 1 .. 20 minutes");
        faulty("gallery figures 0", 4, 16);
        faulty("gallery figures 1", 4, 16);
        sound("gallery figures 2 span 1 stairs 0 shut 0" + LAW, 2);
        sound("gallery figures 9 span 1 stairs 0 shut 0" + LAW, 9);
        faulty("gallery figures 10", 4, 16);
        faulty("gallery figures 999", 4, 16);
        CHECK.sentence(TERMS, "1 .. 20 minutes");
        faulty("gallery figures 2 span 0", 4, 23);
        sound("gallery figures 2 span 20 stairs 0 shut 0" + LAW, 2);
        faulty("gallery figures 2 span 21", 4, 23);
        CHECK.sentence(TERMS, "a PLACE; 0 .. 100 in a hundred");
        sound("gallery figures 2 span 1 stairs 1 shut 0" + LAW, 2);
        faulty("gallery figures 2 span 1 stairs 2", 4, 32);
        sound("gallery figures 9 span 1 stairs 8 shut 0" + LAW, 9);
        faulty("gallery figures 9 span 1 stairs 9", 4, 32);
        CHECK.sentence(TERMS, "0 .. 100 in a hundred");
        sound("gallery figures 2 span 1 stairs 0 shut 100" + LAW, 2);
        faulty("gallery figures 2 span 1 stairs 0 shut 101", 4, 39);
        CHECK.sentence(TERMS, "ahead of all others");
        faulty("law times 0 plus 0 first 0;" + HALL, 6, 0);
        faulty(SOUND + ";" + HALL, 3, 68);
    }

    private static void lawLine() {
        CHECK.sentence(TERMS, "each 0 .. figures less 1; once");
        sound(HALL + ";law times 2 plus 2 first 2", 3);
        faulty(HALL + ";law times 3", 4, 51);
        faulty(HALL + ";law times 0 plus 3", 4, 58);
        faulty(HALL + ";law times 0 plus 0 first 3", 4, 66);
        sound("gallery figures 9 span 1 stairs 0 shut 0;law times 8 plus 8 first 8", 9);
        faulty("gallery figures 9 span 1 stairs 0 shut 0;law times 9", 4, 51);
        faulty("gallery figures 9 span 1 stairs 0 shut 0;law times 8 plus 9", 4, 58);
        faulty("gallery figures 9 span 1 stairs 0 shut 0;law times 8 plus 8 first 9", 4, 66);
        sound("gallery figures 2 span 1 stairs 0 shut 0;law times 1 plus 1 first 1", 2);
        faulty("gallery figures 2 span 1 stairs 0 shut 0;law times 2", 4, 51);
        faulty(SOUND + LAW, 3, 68);
    }

    private static void figureLine() {
        CHECK.sentence(TERMS, "which one, 0 .. figures less 1, not told yet");
        sound(SOUND + ";figure a is 0 walks 1;figure b is 2 walks 1", 3);
        faulty(SOUND + ";figure a is 3", 4, 80);
        faulty(SOUND + ";figure a is 0 walks 1;figure b is 0", 3, 102);
        CHECK.sentence(TERMS, "KIND: walks, a PACE, or speaks, PARTS; 1 .. 20");
        faulty(SOUND + ";figure a is 0 walks 0", 4, 88);
        sound(SOUND + ";figure a is 0 walks 20", 3);
        faulty(SOUND + ";figure a is 0 walks 21", 4, 88);
        faulty(SOUND + ";figure a is 0 speaks 0", 4, 89);
        sound(SOUND + ";figure a is 0 speaks 1", 3);
        sound(SOUND + ";figure a is 0 speaks 20", 3);
        faulty(SOUND + ";figure a is 0 speaks 21", 4, 89);
        faulty(SOUND + ";figure a is 0 stands 1", 1, 82);
        faulty(SOUND + ";figure a is 0 walk 1", 1, 82);
        faulty(SOUND + ";figure a is 0 1", 1, 82);
        CHECK.sentence(TERMS, "up to 9");
        sound(NINE + figures(9), 9);
        faulty(NINE + figures(9) + ";figure x is 0 walks 1", 5, NINE.length() + 22 * 9 + 1);
        faulty(NINE + figures(8) + ";figure x is 9 walks 1", 4, NINE.length() + 22 * 8 + 13);
    }

    private static void watcherLine() {
        CHECK.sentence(TERMS, "PLACES; up to 3");
        sound(SOUND + ";watcher a from 2 to 0", 3);
        faulty(SOUND + ";watcher a from 3", 4, 83);
        sound(SOUND + ";watcher a from 0 to 2", 3);
        faulty(SOUND + ";watcher a from 0 to 3", 4, 88);
        sound(SOUND + watchers(3), 3);
        faulty(SOUND + watchers(4), 5, 67 + 22 * 3 + 1);
    }

    private static void seenLine() {
        CHECK.sentence(TERMS, "which one was alive at a minute, 0 .. 999; each minute once; up to 6");
        sound(SOUND + ";seen 2 at 0", 3);
        faulty(SOUND + ";seen 3 at 0", 4, 73);
        sound(SOUND + ";seen 0 at 999", 3);
        faulty(SOUND + ";seen 0 at 1000", 1, 78);
        CHECK.sentence(TERMS, "each minute once; up to 6");
        faulty(SOUND + ";seen 0 at 9;seen 1 at 9", 3, 90);
        faulty(SOUND + ";seen 0 at 9;seen 0 at 9", 3, 90);
        faulty(SOUND + ";seen 0 at 9;seen 0 at 10;seen 0 at 009", 3, 103);
        sound(SOUND + seen(6), 3);
        faulty(SOUND + seen(7), 5, 67 + 12 * 6 + 1);
    }

    private static void names() {
        CHECK.sentence(TERMS, "PLACES are WHOLES, 0 .. figures less 1.");
        sound("gallery figures 2 span 1 stairs 1 shut 0" + LAW + ";watcher a from 1 to 1", 2);
        faulty("gallery figures 2 span 1 stairs 1 shut 0" + LAW + ";watcher a from 2", 4, 83);
        CHECK.sentence(TERMS, "NAMES are WORDS but gallery, law, figure, watcher, seen");
        for (String word : new String[] {"gallery", "law", "figure", "watcher", "seen"}) {
            faulty(SOUND + ";figure " + word + " is 0 walks 1", 1, 75);
            faulty(SOUND + ";watcher " + word + " from 0 to 0", 1, 76);
        }
        for (String word : new String[] {"figures", "span", "stairs", "shut", "times", "plus", "first", "is", "walks",
            "speaks", "from", "to", "at", "galler", "laws", "fig", "watchers", "see"}) {
            sound(SOUND + ";figure " + word + " is 0 walks 1", 3);
            sound(SOUND + ";watcher " + word + " from 0 to 0", 3);
        }
        faulty(SOUND + ";figure 1 is 0 walks 1", 1, 75);
        CHECK.sentence(TERMS, "each told once");
        faulty(SOUND + ";figure a is 0 walks 1;figure a", 3, 97);
        faulty(SOUND + ";figure a is 0 walks 1;watcher a", 3, 98);
        faulty(SOUND + ";watcher a from 0 to 0;watcher a", 3, 98);
        faulty(SOUND + ";watcher a from 0 to 0;figure a", 3, 97);
        sound(SOUND + ";figure abcdefgh is 0 walks 1;figure abcdefg is 1 walks 1;watcher bcdefgh from 0 to 0", 3);
        faulty(NINE + figures(9) + ";watcher i", 3, NINE.length() + 22 * 9 + 9);
        // Nine figures and three watchers have room for all twelve names, and the last one counts.
        sound(NINE + figures(9) + watchers(3), 9);
        faulty(NINE + figures(8) + watchers(3) + ";figure z", 3, NINE.length() + 22 * 11 + 8);
    }

    private static void order() {
        CHECK.sentence(TERMS, "the first that is met from the left");
        faulty("gallery figures 1 span 0 !", 4, 16);
        faulty("law !", 6, 0);
        faulty("gallery figures 3 ! span 0", 1, 18);
        faulty(HALL + ";seen 3 at 5;law times 9", 4, 46);
        faulty(HALL + ";law times 0 plus 0 first 0;law;!", 3, 68);
        faulty(SOUND + watchers(3) + ";watcher x from 9", 5, 67 + 22 * 3 + 1);
        CHECK.sentence(TERMS, "of one place the least number");
        // At the end the text does not go on (1), and there is no law (6).
        faulty(HALL + ";", 1, 41);
        faulty(HALL + ";watcher a from 0 to", 1, 60);
        faulty(HALL, 6, 40);
    }

    private static void formFaults() {
        CHECK.sentence(TERMS, "1 FORM: the first byte that begins no TOKEN");
        faulty("!", 1, 0);
        faulty("  !", 1, 2);
        faulty(HALL + "!", 1, 40);
        faulty(SOUND + ";seen 0 at 5!", 1, 79);
        faulty("galleries figures 3", 1, 0);
        CHECK.sentence(TERMS, "or TOKEN with which no GALLERY goes on (the end: its place)");
        String[] places = {"gallery ", "figures ", "3 ", "span ", "2 ", "stairs ", "0 ", "shut ", "0 ", ";", "law ",
            "times ", "0 ", "plus ", "0 ", "first ", "0 ", ";", "figure ", "a ", "is ", "1 ", "walks ", "1 ", ";",
            "watcher ", "b ", "from ", "0 ", "to ", "2 ", ";", "seen ", "1 ", "at ", "7 "};
        StringBuilder ahead = new StringBuilder();
        for (String token : places) {
            goesOn(ahead.toString(), token);
            ahead.append(token);
        }
        sound(ahead.toString(), 3);
    }

    /** Behind what is sound so far no other sort of TOKEN does, nor does the end, but for what may stand there. */
    private static void goesOn(String ahead, String token) {
        boolean behindLine = token.equals(";");
        boolean name = token.equals("a ") || token.equals("b ");
        boolean whole = token.charAt(0) >= '0' && token.charAt(0) <= '9';
        if (!behindLine) {
            faulty(ahead, 1, ahead.length());
            faulty(ahead + "   ", 1, ahead.length() + 3);
            faulty(ahead + ";", 1, ahead.length());
        }
        if (!whole) {
            faulty(ahead + "1", 1, ahead.length());
        }
        if (!name) {
            faulty(ahead + "other", 1, ahead.length());
        }
    }

    private static void againFaults() {
        CHECK.sentence(TERMS, "3 a NAME told again");
        faulty(SOUND + ";figure same is 0 walks 1;watcher same from 9", 3, 101);
        CHECK.sentence(TERMS, "a figure that is told, a minute of seen told again; at it");
        faulty(SOUND + ";figure a is 2 walks 1;figure b is 002 runs", 3, 102);
        faulty(SOUND + ";seen 0 at 7;seen 0 at 07;", 3, 90);
        CHECK.sentence(TERMS, "a second gallery, a second law: at that WORD");
        faulty(HALL + ";gallery", 3, 41);
        faulty(HALL + " ; gallery figures 1", 3, 43);
        faulty(SOUND + ";law", 3, 68);
        faulty(SOUND + ";seen 0 at 0; law times 9", 3, 81);
    }

    private static void boundsFaults() {
        CHECK.sentence(TERMS, "4 a WHOLE out of bounds; at it");
        faulty("gallery figures   10 !", 4, 18);
        faulty("gallery figures10", 4, 15);
        faulty(HALL + ";law times 0 plus 0 first 999", 4, 66);
    }

    private static void manyFaults() {
        CHECK.sentence(TERMS, "5 MANY: a LINE more of its sort than there is room for, at its first WORD");
        faulty(NINE + figures(9) + "; figure", 5, NINE.length() + 22 * 9 + 2);
        faulty(SOUND + watchers(3) + ";watcher", 5, 67 + 22 * 3 + 1);
        faulty(SOUND + seen(6) + ";seen", 5, 67 + 12 * 6 + 1);
        // Lines of one sort take no room of another.
        sound(NINE + figures(9) + watchers(3) + seen(6), 9);
    }

    private static void lacksFaults() {
        CHECK.sentence(TERMS, "6 LACKS: any LINE ahead of the gallery; at its WORD");
        faulty("law", 6, 0);
        faulty(" figure", 6, 1);
        faulty("  watcher a from 0 to 0;" + HALL, 6, 2);
        faulty("seen 0 at 0", 6, 0);
        CHECK.sentence(TERMS, "at the end: no law");
        faulty(HALL, 6, 40);
        faulty(HALL + "   ", 6, 43);
        faulty(HALL + ";figure law", 1, 48);
        faulty(HALL + ";figure a is 0 walks 1;seen 0 at 0", 6, 74);
        sound(HALL + ";figure a is 0 walks 1;seen 0 at 0;law times 0 plus 0 first 0", 3);
    }

    // ---- promises 1 to 5

    private static void newObject() {
        CHECK.sentence(1, "No GALLERY.");
        WaxTurns x = new WaxTurns();
        CHECK.refused(x, "alive()", x.alive(), 1);
        for (int what = 0; what <= 13; what++) {
            CHECK.due("size(" + what + ")", x.size(what), 0);
        }
        WaxTurns other = Check.with(SOUND);
        CHECK.due("size(0) of another", other.size(0), 3);
        CHECK.refused(x, "alive(), its own", x.alive(), 1);
    }

    private static void feed() {
        CHECK.sentence(2, "Twenty bytes come behind THE TAPE, of each number the highest first: how many it has");
        WaxTurns x = new WaxTurns();
        CHECK.due("feed", x.feed(0, 0, 0, 0, 0), 20);
        CHECK.due("feed", x.feed(-1, Integer.MIN_VALUE, Integer.MAX_VALUE, 1, 0), 40);
        CHECK.due("size(13)", x.size(13), 40);
        for (int i = 0; i < 20; i++) {
            byteIsThere(i);
        }
        CHECK.sentence(2, "NONE, and none comes, if there would be more than 900");
        WaxTurns y = new WaxTurns();
        Check.feedText(y, SOUND + " ".repeat(900 - SOUND.length()));
        CHECK.due("size(13)", y.size(13), 900);
        CHECK.due("feed, 920", y.feed(1, 2, 3, 4, 5), -1);
        CHECK.due("feed, 920 again", y.feed(1, 2, 3, 4, 5), -1);
        CHECK.due("size(13) stays", y.size(13), 900);
        CHECK.due("trouble(), no number is told of feed", y.trouble(), 0);
        CHECK.taken(y, "gallery(900), as it was fed", y.gallery(900), 3);
        CHECK.due("feed, there is room again", y.feed(1, 2, 3, 4, 5), 20);
        WaxTurns z = new WaxTurns();
        for (int i = 1; i <= 44; i++) {
            z.feed(i, i, i, i, i);
        }
        CHECK.due("feed, 900 is no more than 900", z.feed(0, 0, 0, 0, 0), 900);
    }

    /** Among blanks a byte of 33 at i is the first that begins no TOKEN: where() tells that it came to be there. */
    private static void byteIsThere(int i) {
        int[] numbers = new int[5];
        for (int k = 0; k < 20; k++) {
            numbers[k / 4] = numbers[k / 4] << 8 | (k == i ? '!' : ' ');
        }
        WaxTurns x = new WaxTurns();
        x.feed(numbers[0], numbers[1], numbers[2], numbers[3], numbers[4]);
        CHECK.refused(x, "gallery(20), byte " + i, x.gallery(20), 4);
        CHECK.due("where(), byte " + i, x.where(), i);
    }

    private static void gallery() {
        CHECK.sentence(3, "The first n bytes of THE TAPE (it is empty then) are the GALLERY from now on");
        WaxTurns x = new WaxTurns();
        Check.feedText(x, SOUND + ";watcher a from 0 to 0");
        CHECK.taken(x, "gallery of the first bytes alone", x.gallery(SOUND.length()), 3);
        CHECK.due("size(5), the rest is none of it", x.size(5), 0);
        CHECK.due("size(13), the rest is gone, too", x.size(13), 0);
        CHECK.refused(x, "gallery(1)", x.gallery(1), 2);
        CHECK.taken(x, "a second one takes its place", Check.tell(x, NINE), 9);
        CHECK.due("size(0)", x.size(0), 9);
        cutOff("lawx", 3, 6, 0);
        cutOff("gallery figures 20", 17, 1, 17);
        cutOff("galleryfigures", 7, 1, 7);
        nothingStays();
        CHECK.sentence(3, "(nothing to undo, no IMAGES): how many figures");
        WaxTurns y = Check.with(Galleries.THREE);
        y.go(2);
        y.image();
        CHECK.taken(y, "gallery", Check.tell(y, Galleries.THREE), 3);
        CHECK.due("size(10)", y.size(10), 0);
        CHECK.due("size(11)", y.size(11), 0);
        CHECK.due("size(12)", y.size(12), 0);
        CHECK.due("caught()", y.caught(), 0);
        CHECK.due("undo()", y.undo(), false);
        CHECK.due("trouble()", y.trouble(), 6);
        CHECK.due("back(0)", y.back(0), false);
        CHECK.due("trouble()", y.trouble(), 1);
        CHECK.due("figure(0, 2)", y.figure(0, 2), 0);
        CHECK.sentence(3, "NONE: 2 (THE TAPE stays)");
        refusedByNumber();
        CHECK.sentence(3, "4 (the GALLERY stays)");
        WaxTurns z = Check.with(Galleries.THREE);
        z.go(2);
        z.image();
        Check.feedText(z, HALL);
        String before = Check.state(z).replace(" 40 ", " 0 ");
        CHECK.refused(z, "gallery(40)", z.gallery(40), 4);
        String behind = Check.state(z);
        CHECK.due("all as before, but for THE TAPE: " + before + " and " + behind, behind.equals(before), true);
        CHECK.due("size(13)", z.size(13), 0);
        CHECK.due("undo()", z.undo(), true);
        CHECK.due("back(0)", z.back(0), true);
    }

    /** Of a WORD or a WHOLE that goes on behind the n-th byte only what is ahead of it counts. */
    private static void cutOff(String text, int n, int fault, int place) {
        WaxTurns x = new WaxTurns();
        Check.feedText(x, text);
        CHECK.refused(x, "gallery(" + n + ") of " + text, x.gallery(n), 4);
        CHECK.due("fault()", x.fault(), fault);
        CHECK.due("where()", x.where(), place);
    }

    /** What texts told earlier, sound or not, is no part of a GALLERY that comes behind them. */
    private static void nothingStays() {
        String more = SOUND + ";figure a is 0 walks 3;figure b is 2 speaks 4;watcher c from 1 to 2;seen 1 at 7";
        WaxTurns x = new WaxTurns();
        Check.tell(x, more + ";");
        for (int i = 0; i < 3; i++) {
            CHECK.taken(x, "gallery, with all of it", Check.tell(x, more), 3);
            Check.tell(x, more + ";");
            CHECK.taken(x, "gallery, without it", Check.tell(x, SOUND), 3);
            int[] due = {3, 2, 0, 0, 0, 0, 0, 0, 0, 0, 0, 0, 0, 0};
            for (int what = 0; what < due.length; what++) {
                CHECK.due("size(" + what + ")", x.size(what), due[what]);
            }
            for (int f = 0; f < 3; f++) {
                CHECK.due("figure(" + f + ", 0)", x.figure(f, 0), 0);
                CHECK.due("figure(" + f + ", 1)", x.figure(f, 1), 0);
            }
        }
    }

    private static void refusedByNumber() {
        WaxTurns x = new WaxTurns();
        CHECK.refused(x, "gallery(1), nothing fed", x.gallery(1), 2);
        CHECK.refused(x, "gallery(-1), nothing fed", x.gallery(-1), 2);
        int n = Check.feedText(x, SOUND);
        int fed = x.size(13);
        for (int wrong : new int[] {-1, fed + 1, 901, Integer.MIN_VALUE, Integer.MAX_VALUE}) {
            CHECK.refusedWhole(x, "gallery(" + wrong + ")", () -> x.gallery(wrong), 2);
            CHECK.due("size(13)", x.size(13), fed);
        }
        CHECK.taken(x, "gallery, THE TAPE is as it was", x.gallery(n), 3);
        CHECK.refusedWhole(x, "gallery(-1) leaves the GALLERY, too", () -> x.gallery(-1), 2);
        Check.feedText(x, SOUND);
        CHECK.taken(x, "gallery of all bytes", x.gallery(x.size(13)), 3);
    }

    private static void fault() {
        CHECK.sentence(4, "The FAULT of the latest gallery() not refused by 2");
        WaxTurns x = new WaxTurns();
        Check.tell(x, HALL);
        CHECK.due("fault()", x.fault(), 6);
        x.gallery(-1);
        CHECK.due("fault() behind one refused by 2", x.fault(), 6);
        x.alive();
        x.go(1);
        CHECK.due("fault() behind other calls", x.fault(), 6);
        Check.tell(x, "x");
        CHECK.due("fault() of the latest", x.fault(), 1);
        CHECK.sentence(4, "0 without one");
        CHECK.due("fault() of a new object", new WaxTurns().fault(), 0);
        Check.tell(x, SOUND);
        CHECK.due("fault() of a sound one", x.fault(), 0);
        x.gallery(1);
        CHECK.due("fault() behind one refused by 2", x.fault(), 0);
    }

    private static void where() {
        CHECK.sentence(5, "Its place, if the latest call that may be refused was by 4");
        WaxTurns x = new WaxTurns();
        Check.tell(x, HALL);
        CHECK.due("where()", x.where(), 40);
        x.feed(0, 0, 0, 0, 0);
        x.fault();
        x.size(0);
        x.trouble();
        CHECK.dueLed(x, 0, -1);
        CHECK.due("where() behind calls that may not be refused", x.where(), 40);
        Check.tell(x, "law");
        CHECK.due("where() at the beginning", x.where(), 0);
        CHECK.sentence(5, "NONE else");
        CHECK.due("where() of a new object", new WaxTurns().where(), -1);
        x.gallery(-1);
        CHECK.due("where() behind 2", x.where(), -1);
        Check.tell(x, "law");
        x.alive();
        CHECK.due("where() behind 1", x.where(), -1);
        Check.tell(x, "law");
        x.undo();
        CHECK.due("where() behind 6", x.where(), -1);
        Check.tell(x, SOUND);
        CHECK.due("where() behind a sound one", x.where(), -1);
        Check.tell(x, "law");
        CHECK.due("where()", x.where(), 0);
        x.alive();
        CHECK.due("where() behind a call that wasn't refused", x.where(), -1);
    }

    // ---- what these share

    private static String figures(int count) {
        StringBuilder text = new StringBuilder();
        for (int f = 0; f < count; f++) {
            text.append(";figure " + (char) ('a' + f) + " is " + f + " walks 1");
        }
        return text.toString();
    }

    private static String watchers(int count) {
        StringBuilder text = new StringBuilder();
        for (int w = 0; w < count; w++) {
            text.append(";watcher " + (char) ('x' + w % 3) + " from 0 to 0");
        }
        return text.toString();
    }

    private static String seen(int count) {
        StringBuilder text = new StringBuilder();
        for (int i = 0; i < count; i++) {
            text.append(";seen 0 at " + i);
        }
        return text.toString();
    }

    private static void sound(String text, int figures) {
        WaxTurns x = new WaxTurns();
        CHECK.taken(x, "gallery of " + text, Check.tell(x, text), figures);
        CHECK.due("fault() of " + text, x.fault(), 0);
        CHECK.due("where() of " + text, x.where(), -1);
    }

    private static void faulty(String text, int fault, int place) {
        WaxTurns x = new WaxTurns();
        Check.feedText(x, text.isEmpty() ? " " : text);
        CHECK.refused(x, "gallery of " + text, x.gallery(text.length()), 4);
        CHECK.due("fault() of " + text, x.fault(), fault);
        CHECK.due("where() of " + text, x.where(), place);
        CHECK.due("size(0) of " + text, x.size(0), 0);
    }
}
