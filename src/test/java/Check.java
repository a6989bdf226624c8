import java.util.NoSuchElementException;
import java.util.function.IntSupplier;

/** What the tests share: feeding a text, and telling answers that are not the ones due. */
final class Check {
    private final String name;
    private int right = 0;
    private int wrong = 0;
    private String sentence = "";
    private int lookedAtAhead = 0;

    Check(String name) {
        this.name = name;
        endInTime(name);
    }

    /** A call that doesn't end is a fault as well: behind two minutes the test fails. */
    static void endInTime(String name) {
        Thread watch = new Thread(() -> {
            try {
                Thread.sleep(120_000);
            } catch (InterruptedException e) {
                return;
            }
            System.out.println(name + ": a call does not end");
            Runtime.getRuntime().halt(1);
        });
        watch.setDaemon(true);
        watch.start();
    }

    void due(String call, long got, long want) {
        if (got == want) {
            right++;
            return;
        }
        wrong++;
        System.out.println(name + ": " + sentence + call + " answered " + got + ", due is " + want);
    }

    /**
     * What comes behind looks at a sentence of a promise (or of a section of Document): the quote must stand there,
     * and at least one answer must be looked at behind each.
     */
    void sentence(int section, String quote) {
        endSentence();
        sentence = "[" + section + ": " + quote + "] ";
        lookedAtAhead = right + wrong;
        if (!Document.has(section, quote)) {
            wrong++;
            System.out.println(name + ": " + sentence + "is not what the document says");
        }
    }

    private void endSentence() {
        if (!sentence.isEmpty() && right + wrong == lookedAtAhead) {
            wrong++;
            System.out.println(name + ": " + sentence + "nothing was looked at");
        }
    }

    void due(String call, boolean got, boolean want) {
        due(call, got ? 1 : 0, want ? 1 : 0);
    }

    /** A call that answered got is refused, by a number of TROUBLE. */
    void refused(WaxTurns x, String call, long got, int trouble) {
        due(call, got, WaxTurns.NONE);
        due("trouble() behind " + call, x.trouble(), trouble);
    }

    /** A call that answered got is not refused. */
    void taken(WaxTurns x, String call, long got, long want) {
        due(call, got, want);
        due("trouble() behind " + call, x.trouble(), 0);
    }

    /** A call is refused, by a number of TROUBLE, and nothing is otherwise behind it. */
    void refusedWhole(WaxTurns x, String call, IntSupplier made, int trouble) {
        String before = state(x);
        refused(x, call, made.getAsInt(), trouble);
        String behind = state(x);
        due("that all stays as it was behind " + call + ": " + before + " and " + behind, behind.equals(before), true);
    }

    /** All that can be seen of an object NOW (some 17 calls, and 5 a figure). */
    static String state(WaxTurns x) {
        StringBuilder told = new StringBuilder();
        for (int what = 0; what <= 13; what++) {
            told.append(x.size(what)).append(' ');
        }
        told.append(x.alive()).append(' ').append(x.left()).append(' ').append(x.caught());
        int figures = x.size(0);
        for (int f = 0; f < figures; f++) {
            told.append(';');
            for (int what = 0; what <= 4; what++) {
                told.append(x.figure(f, what)).append(' ');
            }
        }
        return told.toString();
    }

    void dueLed(WaxTurns x, int i, int want) {
        int got = WaxTurns.NONE;
        try {
            got = x.led(i);
        } catch (NoSuchElementException e) {
            got = WaxTurns.NONE;
        }
        due("led(" + i + ") (-1: throws)", got, want);
    }

    /** Feeds a text, filled up with blanks: how many bytes the text itself has. */
    static int feedText(WaxTurns x, String text) {
        byte[] bytes = new byte[(text.length() + 19) / 20 * 20];
        for (int i = 0; i < bytes.length; i++) {
            bytes[i] = (byte) (i < text.length() ? text.charAt(i) : ' ');
        }
        for (int i = 0; i < bytes.length; i += 20) {
            x.feed(number(bytes, i), number(bytes, i + 4), number(bytes, i + 8), number(bytes, i + 12),
                number(bytes, i + 16));
        }
        return text.length();
    }

    private static int number(byte[] bytes, int from) {
        int number = 0;
        for (int i = from; i < from + 4; i++) {
            number = number << 8 | bytes[i] & 255;
        }
        return number;
    }

    static int tell(WaxTurns x, String text) {
        return x.gallery(feedText(x, text));
    }

    /** A new object with a GALLERY; a text with a FAULT is a fault of the test. */
    static WaxTurns with(String text) {
        WaxTurns x = new WaxTurns();
        if (tell(x, text) == WaxTurns.NONE) {
            throw new IllegalStateException("fault " + x.fault() + " at " + x.where() + " in: " + text);
        }
        return x;
    }

    /** Ends the test: exit code 1 if an answer was wrong, or if none was looked at. */
    void end() {
        endSentence();
        System.out.println(name + ": " + right + " answers as due, " + wrong + " not");
        if (wrong > 0 || right == 0) {
            System.exit(1);
        }
    }
}
