import java.util.NoSuchElementException;
import java.util.Random;

/** Runs by chance (with fixed seeds) of all calls on a new object each, against Model: promises 1 to 59. */
public final class ModelTest {
    private static final int RUNS = 400;
    private static final int CALLS = 480;
    private static final int TEXT_RUNS = 60;
    private static final String[] WORDS = {"gallery", "figures", "span", "stairs", "shut", "law", "times", "plus",
        "first", "figure", "is", "walks", "speaks", "watcher", "from", "to", "seen", "at", ";", "a", "b", "abcdefgh",
        "abcdefghi", "0", "1", "2", "9", "10", "20", "21", "100", "101", "999", "1000", "007", "A", "\n", "-", " "};

    private final Random random;
    private WaxTurns x = new WaxTurns();
    private Model m = new Model();
    private int figures = 2;

    private ModelTest(long seed) {
        random = new Random(seed);
    }

    public static void main(String[] args) {
        Check.endInTime("ModelTest");
        int wrong = texts();
        long calls = 0;
        for (int run = 0; run < RUNS && wrong < 20; run++) {
            ModelTest test = new ModelTest(run);
            wrong += test.run(run);
            calls += CALLS;
        }
        System.out.println("ModelTest: " + calls + " calls, " + wrong + " not as due");
        if (wrong > 0) {
            System.exit(1);
        }
    }

    /** Texts broken by chance, and every beginning of a sound one. */
    private static int texts() {
        int wrong = 0;
        for (int run = 0; run < TEXT_RUNS && wrong < 20; run++) {
            ModelTest test = new ModelTest(1000 + run);
            String whole = test.text();
            for (int i = 0; i < 2 * whole.length() && wrong < 20; i++) {
                if (i % 8 == 0) {
                    // An object is promised for 512 calls, and a text takes up to 46.
                    test.x = new WaxTurns();
                    test.m = new Model();
                }
                String text = i < whole.length() ? whole.substring(0, i) : test.broken();
                String answer = test.feed(text);
                boolean same = test.x.fault() == test.m.fault() && test.x.where() == test.m.where();
                if (!same || !answer.isEmpty()) {
                    System.out.println("ModelTest: fault " + test.x.fault() + " at " + test.x.where() + ", due "
                        + test.m.fault() + " at " + test.m.where() + " (" + answer + ") in: " + text);
                    wrong++;
                }
            }
        }
        return wrong;
    }

    private int run(int run) {
        int wrong = 0;
        if (random.nextInt(8) > 0) {
            feed(text());
        }
        for (int i = 0; i < CALLS && wrong == 0; i++) {
            String call = call();
            if (!call.isEmpty()) {
                System.out.println("ModelTest: run " + run + ", call " + i + ": " + call);
                wrong++;
            }
            if (x.trouble() != m.trouble() || x.where() != m.where() || x.fault() != m.fault()) {
                System.out.println("ModelTest: run " + run + ", behind call " + i + ": trouble " + x.trouble() + " due "
                    + m.trouble() + ", fault " + x.fault() + " due " + m.fault() + ", where " + x.where() + " due "
                    + m.where());
                wrong++;
            }
        }
        return wrong;
    }

    private String same(String call, long got, long due) {
        return got == due ? "" : call + " answered " + got + ", due is " + due;
    }

    // ---- texts

    private String text() {
        figures = 2 + random.nextInt(8);
        int small = random.nextInt(3);
        StringBuilder s = new StringBuilder("gallery figures " + figures + " span " + (1 + random.nextInt(small == 0
            ? 20 : 5)) + " stairs " + random.nextInt(figures) + " shut " + random.nextInt(101));
        boolean lawFirst = random.nextBoolean();
        String law = ";law times " + random.nextInt(figures) + " plus " + random.nextInt(figures) + " first "
            + random.nextInt(figures);
        s.append(lawFirst ? law : "");
        for (int f = 0; f < figures; f++) {
            int kind = random.nextInt(4);
            if (kind > 0) {
                s.append(";figure f" + (char) ('a' + f) + " is " + f + (kind < 3 ? " walks " : " speaks ")
                    + (1 + random.nextInt(random.nextInt(3) == 0 ? 20 : 3)));
            }
        }
        int watchers = random.nextInt(4);
        for (int w = 0; w < watchers; w++) {
            s.append(";watcher w" + (char) ('a' + w) + " from " + random.nextInt(figures) + " to "
                + random.nextInt(figures));
        }
        int seen = random.nextInt(7) * random.nextInt(2);
        int minute = 0;
        for (int i = 0; i < seen; i++) {
            minute += 1 + random.nextInt(random.nextBoolean() ? 10 : 150);
            s.append(";seen " + random.nextInt(figures) + " at " + minute);
        }
        return s.append(lawFirst ? "" : law).toString();
    }

    /** A text with a token or a byte more, less, or another one; often with a FAULT. */
    private String broken() {
        StringBuilder s = new StringBuilder(random.nextInt(20) == 0 ? "" : text());
        int changes = 1 + random.nextInt(2);
        for (int i = 0; i < changes; i++) {
            int at = random.nextInt(s.length() + 1);
            switch (random.nextInt(6)) {
                case 0:
                    s.insert(at, WORDS[random.nextInt(WORDS.length)]);
                    break;
                case 1:
                    s.insert(at, " " + WORDS[random.nextInt(WORDS.length)] + " ");
                    break;
                case 2:
                    s.setLength(at);
                    break;
                case 3:
                    s.delete(at, Math.min(s.length(), at + 1 + random.nextInt(6)));
                    break;
                case 4:
                    s.append(";" + line());
                    break;
                default:
                    swapToken(s);
                    break;
            }
        }
        return s.toString();
    }

    private String line() {
        String[] lines = {"law times 0 plus 0 first 0", "watcher y from 0 to 1", "watcher fa from 0 to 1",
            "figure z is 0 walks 1", "figure z is 1 speaks 20", "seen 1 at 1", "seen 0 at 999", "gallery figures 2",
            "seen 0 at 500;seen 1 at 501;seen 0 at 502;seen 0 at 503;seen 0 at 504;seen 0 at 505;seen 0 at 506",
            "watcher x from 0 to 0;watcher v from 0 to 0;watcher u from 0 to 0;watcher t from 1 to 1"};
        return lines[random.nextInt(lines.length)];
    }

    private void swapToken(StringBuilder s) {
        String[] tokens = s.toString().split(" ");
        if (tokens.length == 0) {
            return;
        }
        int at = random.nextInt(tokens.length);
        tokens[at] = WORDS[random.nextInt(WORDS.length)];
        s.setLength(0);
        s.append(String.join(" ", tokens));
    }

    private String feed(String text) {
        String all = text.length() > 890 ? text.substring(0, 890) : text;
        byte[] bytes = new byte[(all.length() + 19) / 20 * 20];
        for (int i = 0; i < bytes.length; i++) {
            bytes[i] = (byte) (i < all.length() ? all.charAt(i) : ' ');
        }
        for (int i = 0; i < bytes.length; i += 20) {
            int[] n = new int[5];
            for (int k = 0; k < 20; k++) {
                n[k / 4] = n[k / 4] << 8 | bytes[i + k] & 255;
            }
            String wrong = same("feed", x.feed(n[0], n[1], n[2], n[3], n[4]), m.feed(n));
            if (!wrong.isEmpty()) {
                return wrong;
            }
        }
        return same("gallery of: " + all, x.gallery(all.length()), m.gallery(all.length()));
    }

    // ---- calls

    /** Mostly 0 .. most, now and then a number beside it. */
    private int upTo(int most) {
        switch (random.nextInt(24)) {
            case 0:
                return most + 1;
            case 1:
                return -1;
            case 2:
                return most;
            case 3:
                return 0;
            case 4:
                return random.nextInt();
            default:
                return random.nextInt(most + 1);
        }
    }

    private int who() {
        return upTo(figures - 1);
    }

    private String call() {
        switch (random.nextInt(12)) {
            case 0:
            case 1:
                return acts();
            case 2:
                return random.nextInt(40) == 0 ? feed(random.nextInt(3) == 0 ? text() : broken()) : acts();
            case 3:
                return told();
            case 4:
            case 5:
                return turns();
            case 6:
            case 7:
                return minutes();
            case 8:
                return attendant();
            case 9:
                return laws();
            case 10:
                return shut();
            default:
                return random.nextInt(4) == 0 ? dares() : minutes();
        }
    }

    private String acts() {
        int a = who();
        switch (random.nextInt(12)) {
            case 0:
            case 1:
            case 2:
            case 3:
                a = upTo(60);
                return same("go(" + a + ")", x.go(a), m.go(a));
            case 4:
            case 5:
                return same("put(" + a + ")", x.put(a), m.put(a));
            case 6:
            case 7:
                return same("wind(" + a + ")", x.wind(a), m.wind(a));
            case 8:
            case 9:
                return same("undo()", x.undo() ? 1 : 0, m.undo() ? 1 : 0);
            case 10:
                return same("image()", x.image(), m.image());
            default:
                a = upTo(2);
                return same("back(" + a + ")", x.back(a) ? 1 : 0, m.back(a) ? 1 : 0);
        }
    }

    private String told() {
        int a = who();
        int b = upTo(4);
        switch (random.nextInt(8)) {
            case 0:
            case 1:
                return same("figure(" + a + ", " + b + ")", x.figure(a, b), m.figure(a, b));
            case 2:
                a = upTo(2);
                b = upTo(2);
                return same("watcher(" + a + ", " + b + ")", x.watcher(a, b), m.watcher(a, b));
            case 3:
                return same("alive()", x.alive(), m.alive());
            case 4:
                return same("left()", x.left(), m.left());
            case 5:
                return same("caught()", x.caught(), m.caught());
            case 6:
                return same("led(" + b + ")", led(b), m.led(b));
            default:
                a = upTo(13);
                return same("size(" + a + ")", x.size(a), m.size(a));
        }
    }

    private int led(int i) {
        try {
            return x.led(i);
        } catch (NoSuchElementException e) {
            return -1;
        }
    }

    private String turns() {
        int a = who();
        int n = upTo(999);
        switch (random.nextInt(6)) {
            case 0:
                n = random.nextBoolean() ? n : random.nextInt();
                return same("turnOf(" + n + ")", x.turnOf(n), m.turnOf(n));
            case 1:
                return same("turnIn(" + a + ")", x.turnIn(a), m.turnIn(a));
            case 2:
                return same("settles()", x.settles(), m.settles());
            case 3:
                return same("round()", x.round(), m.round());
            case 4:
                return same("called()", x.called(), m.called());
            default:
                return same("minutesOf(" + a + ", " + n + ")", x.minutesOf(a, n), m.minutesOf(a, n));
        }
    }

    private String minutes() {
        int a = who();
        int w = upTo(2);
        int n = random.nextBoolean() ? upTo(300) : random.nextInt(40);
        String two = "(" + a + ", " + n + ")";
        switch (random.nextInt(12)) {
            case 0:
                return same("place" + two, x.place(a, n), m.place(a, n));
            case 1:
                return same("watch(" + w + ", " + n + ")", x.watch(w, n), m.watch(w, n));
            case 2:
                return same("gone(" + n + ")", x.gone(n), m.gone(n));
            case 3:
                return same("stairs()", x.stairs(), m.stairs());
            case 4:
                return same("catches(" + n + ")", x.catches(n), m.catches(n));
            case 5:
                return same("heard" + two, x.heard(a, n), m.heard(a, n));
            case 6:
                return same("allIn(" + a + ")", x.allIn(a), m.allIn(a));
            case 7:
                return same("meets(" + w + ")", x.meets(w), m.meets(w));
            case 8:
                return same("crowd(" + n + ")", x.crowd(n), m.crowd(n));
            case 9:
                return same("farthest(" + n + ")", x.farthest(n), m.farthest(n));
            case 10:
                return same("nearBy" + two, x.nearBy(a, n), m.nearBy(a, n));
            default:
                return same("spoken" + two, x.spoken(a, n), m.spoken(a, n));
        }
    }

    private String attendant() {
        int a = who();
        int n = upTo(60);
        int i = upTo(random.nextBoolean() ? 60 : Math.min(60, Math.max(1, n)));
        int w = upTo(2);
        switch (random.nextInt(7)) {
            case 0:
                return same("route(" + a + ", " + n + ")", x.route(a, n), m.route(a, n));
            case 1:
            case 2:
                return same("routeAt(" + a + ", " + n + ", " + i + ")", x.routeAt(a, n, i), m.routeAt(a, n, i));
            case 3:
                return same("stand(" + n + ")", x.stand(n), m.stand(n));
            case 4:
                n = random.nextInt(5) == 0 ? n : Math.min(n, 8);
                return same("guard(" + n + ")", x.guard(n), m.guard(n));
            case 5:
                return same("windBest()", x.windBest(), m.windBest());
            default:
                return same("patrol(" + w + ", " + n + ")", x.patrol(w, n), m.patrol(w, n));
        }
    }

    private String laws() {
        int a = who();
        int n = upTo(999);
        int i = upTo(random.nextBoolean() ? 728 : 5);
        switch (random.nextInt(9)) {
            case 0:
                return same("fits()", x.fits(), m.fits());
            case 1:
                return same("fitAt(" + i + ")", x.fitAt(i), m.fitAt(i));
            case 2:
                return same("could(" + n + ")", x.could(n), m.could(n));
            case 3:
                return same("aliveBy(" + a + ", " + n + ")", x.aliveBy(a, n), m.aliveBy(a, n));
            case 4:
                return same("look()", x.look(), m.look());
            case 5:
                return same("lookLeaves()", x.lookLeaves(), m.lookLeaves());
            case 6:
                return same("lawsLike()", x.lawsLike(), m.lawsLike());
            case 7:
                n = upTo(99);
                return same("lawFor(" + a + ", " + n + ")", x.lawFor(a, n), m.lawFor(a, n));
            default:
                return same("judge()", x.judge(), m.judge());
        }
    }

    private String dares() {
        int wax = upTo(9);
        boolean p = random.nextBoolean();
        boolean q = random.nextBoolean();
        boolean r = random.nextBoolean();
        switch (random.nextInt(3)) {
            case 0:
                return same("dares(" + wax + ", " + p + ", " + q + ", " + r + ")", x.dares(wax, p, q, r),
                    m.dares(wax, p, q, r));
            case 1:
                return same("rests(" + wax + ")", x.rests(wax), m.rests(wax));
            default:
                return same("rest(" + wax + ")", x.rest(wax), m.rest(wax));
        }
    }

    private String shut() {
        int a = who();
        int n = upTo(8);
        int seed = upTo(65536);
        int many = upTo(200);
        boolean lower = random.nextBoolean();
        switch (random.nextInt(4)) {
            case 0:
                return same("odds(" + a + ", " + n + ", " + lower + ")", x.odds(a, n, lower), m.odds(a, n, lower));
            case 1:
                return same("mean(" + a + ", " + n + ", " + lower + ")", x.mean(a, n, lower), m.mean(a, n, lower));
            case 2:
                return same("drawn(" + a + ", " + seed + ", " + many + ")", x.drawn(a, seed, many),
                    m.drawn(a, seed, many));
            default:
                return same("firstShut(" + seed + ", " + many + ")", x.firstShut(seed, many),
                    m.firstShut(seed, many));
        }
    }
}
