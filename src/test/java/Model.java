import java.math.BigInteger;
import java.util.ArrayDeque;
import java.util.ArrayList;
import java.util.Arrays;
import java.util.Deque;
import java.util.HashSet;
import java.util.List;
import java.util.Set;
import java.util.regex.Matcher;
import java.util.regex.Pattern;

/**
 * A second reading of the document, slow and plain, with the names of its calls: what is due.
 * Nothing here is taken from WaxTurns; where that one is clever, this one tries all.
 */
final class Model {
    private static final Set<String> LINE_WORDS = Set.of("gallery", "law", "figure", "watcher", "seen");

    /** Told by a FAULT: its number and its place. */
    private static final class Fault extends Exception {
        private static final long serialVersionUID = 1L;
        final int number;
        final int place;

        Fault(int number, int place) {
            this.number = number;
            this.place = place;
        }
    }

    private static final class Token {
        final String text;
        final int place;

        Token(String text, int place) {
            this.text = text;
            this.place = place;
        }
    }

    /** What a text tells. */
    private static final class Told {
        int figures;
        int span;
        int stairs;
        int shut;
        int times = -1;
        int plus;
        int first;
        final int[] kind = new int[9];
        final int[] measure = new int[9];
        int toldFigures;
        final List<int[]> watchers = new ArrayList<>();
        final List<int[]> seen = new ArrayList<>();
        final Set<String> names = new HashSet<>();
        final Set<Integer> which = new HashSet<>();
    }

    /** All that goes on; never changed, always made anew. */
    private static final class State implements Cloneable {
        int minute;
        int turn;
        int inTurn;
        int[] at = {0, 1, 2, 3, 4, 5, 6, 7, 8};
        boolean[] gone = new boolean[9];
        int[] heard = new int[9];
        int caught;

        State copy() {
            State s = new State();
            s.minute = minute;
            s.turn = turn;
            s.inTurn = inTurn;
            s.at = at.clone();
            s.gone = gone.clone();
            s.heard = heard.clone();
            s.caught = caught;
            return s;
        }

        int goneBits(int figures) {
            int bits = 0;
            for (int f = 0; f < figures; f++) {
                bits += gone[f] ? 1 << f : 0;
            }
            return bits;
        }
    }

    private String tape = "";
    private Told told;
    private State now = new State();
    private final Deque<State> past = new ArrayDeque<>();
    private final List<State> images = new ArrayList<>();
    private int trouble;
    private int fault;
    private int faultPlace;

    private int no(int number) {
        trouble = number;
        return -1;
    }

    private int yes(int value) {
        trouble = 0;
        return value;
    }

    int feed(int... numbers) {
        if (tape.length() + 20 > 900) {
            return -1;
        }
        StringBuilder more = new StringBuilder();
        for (int number : numbers) {
            for (int i = 0; i < 4; i++) {
                more.append((char) (number >>> 24 - 8 * i & 255));
            }
        }
        tape += more;
        return tape.length();
    }

    int gallery(int n) {
        if (n < 0 || n > tape.length()) {
            return no(2);
        }
        String text = tape.substring(0, n);
        tape = "";
        try {
            told = parse(text);
        } catch (Fault f) {
            fault = f.number;
            faultPlace = f.place;
            return no(4);
        }
        fault = 0;
        now = new State();
        now.turn = told.first;
        past.clear();
        images.clear();
        return yes(told.figures);
    }

    int fault() {
        return fault;
    }

    int where() {
        return trouble == 4 ? faultPlace : -1;
    }

    private static List<Token> tokens(String text) {
        List<Token> all = new ArrayList<>();
        Matcher m = Pattern.compile("[a-z]+|[0-9]+|[^ ]", Pattern.DOTALL).matcher(text);
        while (m.find()) {
            all.add(new Token(m.group(), m.start()));
        }
        all.add(new Token("", text.length()));
        return all;
    }

    /** The form alone first, of each line, a step at a time; what lines mean is looked at when a token is taken. */
    private static Told parse(String text) throws Fault {
        List<Token> all = tokens(text);
        Told g = new Told();
        int i = 0;
        while (true) {
            Token head = all.get(i);
            if (!LINE_WORDS.contains(head.text)) {
                throw new Fault(1, head.place);
            }
            i = line(all, i, g, head);
            Token behind = all.get(i);
            if (behind.text.isEmpty()) {
                if (g.times < 0) {
                    throw new Fault(6, behind.place);
                }
                return g;
            }
            if (!behind.text.equals(";")) {
                throw new Fault(1, behind.place);
            }
            i++;
        }
    }

    private static int line(List<Token> all, int i, Told g, Token head) throws Fault {
        boolean second = head.text.equals("gallery") && g.figures > 0 || head.text.equals("law") && g.times >= 0;
        boolean many = head.text.equals("figure") && g.toldFigures == 9
            || head.text.equals("watcher") && g.watchers.size() == 3 || head.text.equals("seen") && g.seen.size() == 6;
        boolean lacks = !head.text.equals("gallery") && g.figures == 0;
        if (second || many || lacks) {
            throw new Fault(second ? 3 : many ? 5 : 6, head.place);
        }
        int top = g.figures - 1;
        switch (head.text) {
            case "gallery": {
                int figures = pair(all, i + 1, "figures", 2, 9);
                g.span = pair(all, i + 3, "span", 1, 20);
                g.stairs = pair(all, i + 5, "stairs", 0, figures - 1);
                g.shut = pair(all, i + 7, "shut", 0, 100);
                g.figures = figures;
                return i + 9;
            }
            case "law": {
                int times = pair(all, i + 1, "times", 0, top);
                g.plus = pair(all, i + 3, "plus", 0, top);
                g.first = pair(all, i + 5, "first", 0, top);
                g.times = times;
                return i + 7;
            }
            case "figure": {
                name(all.get(i + 1), g);
                int f = pair(all, i + 2, "is", 0, top);
                if (!g.which.add(f)) {
                    throw new Fault(3, all.get(i + 3).place);
                }
                boolean walks = all.get(i + 4).text.equals("walks");
                g.measure[f] = pair(all, i + 4, walks ? "walks" : "speaks", 1, 20);
                g.kind[f] = walks ? 1 : 2;
                g.toldFigures++;
                return i + 6;
            }
            case "watcher": {
                name(all.get(i + 1), g);
                int from = pair(all, i + 2, "from", 0, top);
                g.watchers.add(new int[] {from, pair(all, i + 4, "to", 0, top)});
                return i + 6;
            }
            default: {
                int f = pair(all, i, "seen", 0, top);
                int minute = pair(all, i + 2, "at", 0, 999);
                for (int[] other : g.seen) {
                    if (other[1] == minute) {
                        throw new Fault(3, all.get(i + 3).place);
                    }
                }
                g.seen.add(new int[] {f, minute});
                return i + 4;
            }
        }
    }

    private static void name(Token token, Told g) throws Fault {
        if (!token.text.matches("[a-z]{1,8}") || LINE_WORDS.contains(token.text)) {
            throw new Fault(1, token.place);
        }
        if (!g.names.add(token.text)) {
            throw new Fault(3, token.place);
        }
    }

    private static int pair(List<Token> all, int i, String word, int least, int most) throws Fault {
        if (!all.get(i).text.equals(word)) {
            throw new Fault(1, all.get(i).place);
        }
        Token whole = all.get(i + 1);
        if (!whole.text.matches("[0-9]{1,3}")) {
            throw new Fault(1, whole.place);
        }
        int value = Integer.parseInt(whole.text);
        if (value < least || value > most) {
            throw new Fault(4, whole.place);
        }
        return value;
    }

    // ---- how it goes

    private boolean noFigure(int f) {
        return told == null || f < 0 || f >= told.figures;
    }

    private boolean noWatcher(int w) {
        return told == null || w < 0 || w >= told.watchers.size();
    }

    private static boolean out(int n, int least, int most) {
        return n < least || n > most;
    }

    private int after(int f) {
        return (f * told.times + told.plus) % told.figures;
    }

    /** Walks the way, a minute at a time. */
    private static int walker(int[] watcher, int minute) {
        int at = watcher[0];
        int goal = watcher[1];
        for (int m = 0; m < minute; m++) {
            if (at == goal) {
                goal = goal == watcher[1] ? watcher[0] : watcher[1];
            }
            at += Integer.compare(goal, at);
        }
        return at;
    }

    private static final int[] NO_POSTS = {};

    private State minute(State before, List<int[]> watchers, int[] posts) {
        State s = before.copy();
        Set<Integer> watched = new HashSet<>();
        for (int[] w : watchers) {
            // A way of d places comes again behind 2d minutes.
            int way = Math.max(1, 2 * Math.abs(w[0] - w[1]));
            watched.add(walker(w, s.minute % way));
        }
        for (int p : posts) {
            watched.add(p);
        }
        int f = s.turn;
        int number = s.inTurn + 1;
        if (!s.gone[f] && told.kind[f] == 1 && number % told.measure[f] == 0) {
            s.at[f] += Integer.compare(told.stairs, s.at[f]);
            if (watched.contains(s.at[f])) {
                s.caught++;
                s.at[f] = f;
            } else if (s.at[f] == told.stairs) {
                s.gone[f] = true;
            }
        }
        if (!s.gone[f] && told.kind[f] == 2 && number <= told.measure[f]) {
            for (int w : watched) {
                if (Math.abs(w - s.at[f]) <= 1) {
                    s.heard[f] |= 1 << number - 1;
                }
            }
        }
        s.minute++;
        s.inTurn++;
        if (s.inTurn == told.span) {
            s.inTurn = 0;
            s.turn = after(f);
        }
        return s;
    }

    /** The scenes behind 0, 1 .. n minutes. */
    private List<State> film(State from, int n, List<int[]> watchers, int[] posts) {
        List<State> all = new ArrayList<>();
        all.add(from);
        for (int i = 0; i < n; i++) {
            all.add(minute(all.get(i), watchers, posts));
        }
        return all;
    }

    private List<State> film(int n) {
        return film(now, n, told.watchers, NO_POSTS);
    }

    // ---- now

    int figure(int f, int what) {
        if (noFigure(f) || out(what, 0, 4)) {
            return no(1);
        }
        int[] all = {told.kind[f], told.measure[f], now.at[f], now.gone[f] ? 1 : 0, now.heard[f]};
        return yes(all[what]);
    }

    int watcher(int w, int what) {
        if (noWatcher(w) || out(what, 0, 2)) {
            return no(1);
        }
        int[] own = told.watchers.get(w);
        return yes(what < 2 ? own[what] : walker(own, now.minute));
    }

    int alive() {
        return told == null ? no(1) : yes(now.turn);
    }

    int left() {
        return told == null ? no(1) : yes(told.span - now.inTurn);
    }

    int caught() {
        return told == null ? no(1) : yes(now.caught);
    }

    // ---- turns

    private int[] turns(int n) {
        int[] all = new int[n];
        int who = now.turn;
        for (int i = 0; i < n; i++) {
            all[i] = who;
            who = after(who);
        }
        return all;
    }

    int turnOf(int n) {
        if (told == null) {
            return no(1);
        }
        if (out(n, 0, 2000000000)) {
            return no(2);
        }
        int[] all = turns(100);
        if (n < 100) {
            return yes(all[n]);
        }
        int tail = tail(all);
        return yes(all[tail + (n - tail) % length(all)]);
    }

    private static int tail(int[] all) {
        for (int i = 0; ; i++) {
            for (int j = i + 1; j < all.length; j++) {
                if (all[j] == all[i]) {
                    return i;
                }
            }
        }
    }

    private static int length(int[] all) {
        int tail = tail(all);
        int j = tail + 1;
        while (all[j] != all[tail]) {
            j++;
        }
        return j - tail;
    }

    int turnIn(int f) {
        if (noFigure(f)) {
            return no(1);
        }
        int[] all = turns(100);
        for (int i = 0; i < 100; i++) {
            if (all[i] == f) {
                return yes(i);
            }
        }
        return yes(-2);
    }

    int settles() {
        return told == null ? no(1) : yes(tail(turns(100)));
    }

    int round() {
        return told == null ? no(1) : yes(length(turns(100)));
    }

    int called() {
        if (told == null) {
            return no(1);
        }
        int bits = 0;
        for (int f : turns(100)) {
            bits |= 1 << f;
        }
        return yes(bits);
    }

    int minutesOf(int f, int n) {
        if (noFigure(f)) {
            return no(1);
        }
        if (out(n, 0, 999)) {
            return no(2);
        }
        int[] all = turns(1001);
        int count = 0;
        for (int i = 0; i < n; i++) {
            count += all[(now.inTurn + i) / told.span] == f ? 1 : 0;
        }
        return yes(count);
    }

    // ---- minutes to come

    int place(int f, int n) {
        if (noFigure(f)) {
            return no(1);
        }
        return out(n, 0, 300) ? no(2) : yes(film(n).get(n).at[f]);
    }

    int watch(int w, int n) {
        if (noWatcher(w)) {
            return no(1);
        }
        return out(n, 1, 300) ? no(2) : yes(walker(told.watchers.get(w), now.minute + n - 1));
    }

    int gone(int n) {
        if (told == null) {
            return no(1);
        }
        return out(n, 0, 300) ? no(2) : yes(film(n).get(n).goneBits(told.figures));
    }

    private int firstGone(List<State> film) {
        for (int i = 1; i < film.size(); i++) {
            if (film.get(i).goneBits(9) != film.get(0).goneBits(9)) {
                return i;
            }
        }
        return -2;
    }

    int stairs() {
        return told == null ? no(1) : yes(firstGone(film(300)));
    }

    int catches(int n) {
        if (told == null) {
            return no(1);
        }
        return out(n, 0, 300) ? no(2) : yes(film(n).get(n).caught - now.caught);
    }

    private int heardFrom(State from, int f, int n) {
        return film(from, n, told.watchers, NO_POSTS).get(n).heard[f];
    }

    int heard(int f, int n) {
        if (noFigure(f)) {
            return no(1);
        }
        if (out(n, 0, 300)) {
            return no(2);
        }
        State deaf = now.copy();
        deaf.heard = new int[9];
        return yes(heardFrom(deaf, f, n));
    }

    int allIn(int f) {
        if (noFigure(f)) {
            return no(1);
        }
        if (told.kind[f] != 2) {
            return yes(-2);
        }
        List<State> film = film(300);
        for (int i = 0; i <= 300; i++) {
            if (Integer.bitCount(film.get(i).heard[f]) == told.measure[f]) {
                return yes(i);
            }
        }
        return yes(-2);
    }

    int meets(int w) {
        if (noWatcher(w)) {
            return no(1);
        }
        List<State> film = film(300);
        for (int i = 1; i <= 300; i++) {
            int f = film.get(i - 1).turn;
            State s = film.get(i);
            if (!s.gone[f] && s.at[f] == walker(told.watchers.get(w), now.minute + i - 1)) {
                return yes(i);
            }
        }
        return yes(-2);
    }

    int crowd(int n) {
        if (told == null) {
            return no(1);
        }
        if (out(n, 0, 300)) {
            return no(2);
        }
        State s = film(n).get(n);
        int[] counts = new int[9];
        for (int f = 0; f < told.figures; f++) {
            counts[s.at[f]] += s.gone[f] ? 0 : 1;
        }
        return yes(firstMost(counts));
    }

    private static int firstMost(int[] counts) {
        int most = Arrays.stream(counts).max().getAsInt();
        int i = 0;
        while (counts[i] != most) {
            i++;
        }
        return i;
    }

    int farthest(int n) {
        if (told == null) {
            return no(1);
        }
        if (out(n, 0, 300)) {
            return no(2);
        }
        State s = film(n).get(n);
        int[] way = new int[told.figures];
        for (int f = 0; f < told.figures; f++) {
            way[f] = Math.abs(s.at[f] - f);
        }
        return yes(firstMost(way));
    }

    int nearBy(int f, int n) {
        if (noFigure(f)) {
            return no(1);
        }
        if (out(n, 0, 300)) {
            return no(2);
        }
        int count = 0;
        List<State> film = film(n);
        for (int i = 1; i <= n; i++) {
            boolean near = false;
            for (int[] w : told.watchers) {
                near |= walker(w, now.minute + i - 1) == film.get(i).at[f];
            }
            count += near && !film.get(i).gone[f] ? 1 : 0;
        }
        return yes(count);
    }

    int spoken(int f, int n) {
        if (noFigure(f)) {
            return no(1);
        }
        if (out(n, 0, 300)) {
            return no(2);
        }
        int bits = 0;
        int[] all = turns(400);
        for (int i = 0; i < n && told.kind[f] == 2; i++) {
            int part = (now.inTurn + i) % told.span + 1;
            if (all[(now.inTurn + i) / told.span] == f && part <= told.measure[f]) {
                bits |= 1 << part - 1;
            }
        }
        return yes(bits);
    }

    // ---- an attendant, guards

    /** Of each place the best way there from the first one, minute by minute: its worth, and its steps as a text. */
    private String[] ways(int place, int n) {
        List<State> film = film(n);
        String[] ways = new String[told.figures];
        int[] worth = new int[told.figures];
        ways[place] = "";
        for (int i = 1; i <= n; i++) {
            int f = film.get(i - 1).turn;
            int aim = film.get(i).gone[f] ? -1 : film.get(i).at[f];
            String[] longer = new String[told.figures];
            int[] more = new int[told.figures];
            for (int p = 0; p < told.figures; p++) {
                for (int step = 0; step < 3 && ways[p] != null; step++) {
                    int q = p + (step == 0 ? 0 : step == 1 ? -1 : 1);
                    if (q < 0 || q >= told.figures) {
                        continue;
                    }
                    int w = worth[p] + (q == aim ? 1 : 0);
                    String way = ways[p] + step;
                    if (longer[q] == null || w > more[q] || w == more[q] && way.compareTo(longer[q]) < 0) {
                        longer[q] = way;
                        more[q] = w;
                    }
                }
            }
            ways = longer;
            worth = more;
        }
        String best = null;
        int most = -1;
        for (int p = 0; p < told.figures; p++) {
            if (ways[p] != null && (worth[p] > most || worth[p] == most && ways[p].compareTo(best) < 0)) {
                best = ways[p];
                most = worth[p];
            }
        }
        return new String[] {String.valueOf(most), best};
    }

    int route(int place, int n) {
        if (noFigure(place)) {
            return no(1);
        }
        return out(n, 1, 60) ? no(2) : yes(Integer.parseInt(ways(place, n)[0]));
    }

    int routeAt(int place, int n, int i) {
        if (noFigure(place) || out(i, 1, n)) {
            return no(1);
        }
        if (out(n, 1, 60)) {
            return no(2);
        }
        int at = place;
        for (char step : ways(place, n)[1].substring(0, i).toCharArray()) {
            at += step == '0' ? 0 : step == '1' ? -1 : 1;
        }
        return yes(at);
    }

    int stand(int n) {
        if (told == null) {
            return no(1);
        }
        if (out(n, 1, 60)) {
            return no(2);
        }
        int[] worth = new int[told.figures];
        for (int p = 0; p < told.figures; p++) {
            worth[p] = Integer.parseInt(ways(p, n)[0]);
        }
        return yes(firstMost(worth));
    }

    int guard(int n) {
        if (told == null) {
            return no(1);
        }
        if (out(n, 1, 60)) {
            return no(2);
        }
        int best = -2;
        for (int bits = 0; bits < 1 << told.figures; bits++) {
            int[] posts = new int[Integer.bitCount(bits)];
            int k = 0;
            for (int p = 0; p < 9; p++) {
                if ((bits >> p & 1) == 1) {
                    posts[k++] = p;
                }
            }
            boolean fewer = best == -2 || posts.length < Integer.bitCount(best);
            if (fewer && firstGone(film(now, n, told.watchers, posts)) == -2) {
                best = bits;
            }
        }
        return yes(best);
    }

    int windBest() {
        if (told == null) {
            return no(1);
        }
        int[] minutes = new int[told.figures];
        for (int f = 0; f < told.figures; f++) {
            State s = now.copy();
            s.turn = f;
            s.inTurn = 0;
            int till = firstGone(film(s, 300, told.watchers, NO_POSTS));
            minutes[f] = till == -2 ? 1000 : till;
        }
        return yes(firstMost(minutes));
    }

    int patrol(int w, int n) {
        if (noWatcher(w)) {
            return no(1);
        }
        if (out(n, 1, 60)) {
            return no(2);
        }
        int best = -1;
        int bestWorth = Integer.MIN_VALUE;
        for (int from = 0; from < told.figures; from++) {
            for (int to = 0; to < told.figures; to++) {
                List<int[]> watchers = new ArrayList<>(told.watchers);
                watchers.set(w, new int[] {from, to});
                State s = film(now, n, watchers, NO_POSTS).get(n);
                int worth = s.caught - 100000 * Integer.bitCount(s.goneBits(9));
                if (worth > bestWorth) {
                    bestWorth = worth;
                    best = 10 * from + to;
                }
            }
        }
        return yes(best);
    }

    // ---- laws

    private int[] turnsBy(int law, int n) {
        int[] all = new int[n];
        all[0] = law % 10;
        for (int i = 1; i < n; i++) {
            all[i] = (all[i - 1] * (law / 100) + law / 10 % 10) % told.figures;
        }
        return all;
    }

    private int aliveAt(int law, int minute) {
        int turn = minute / told.span;
        return turnsBy(law, turn + 1)[turn];
    }

    private List<Integer> allLaws() {
        List<Integer> all = new ArrayList<>();
        for (int law = 0; law < 1000; law++) {
            int most = told.figures - 1;
            if (law / 100 <= most && law / 10 % 10 <= most && law % 10 <= most) {
                all.add(law);
            }
        }
        return all;
    }

    private List<Integer> fitting() {
        List<Integer> all = allLaws();
        all.removeIf(law -> {
            for (int[] seen : told.seen) {
                if (aliveAt(law, seen[1]) != seen[0]) {
                    return true;
                }
            }
            return false;
        });
        return all;
    }

    int fits() {
        return told == null ? no(1) : yes(fitting().size());
    }

    int fitAt(int i) {
        if (told == null || out(i, 0, fitting().size() - 1)) {
            return no(1);
        }
        return yes(fitting().get(i));
    }

    int could(int minute) {
        if (told == null) {
            return no(1);
        }
        if (out(minute, 0, 999)) {
            return no(2);
        }
        int bits = 0;
        for (int law : fitting()) {
            bits |= 1 << aliveAt(law, minute);
        }
        return yes(bits);
    }

    int aliveBy(int f, int minute) {
        if (noFigure(f)) {
            return no(1);
        }
        if (out(minute, 0, 999)) {
            return no(2);
        }
        int count = 0;
        for (int law : fitting()) {
            count += aliveAt(law, minute) == f ? 1 : 0;
        }
        return yes(count);
    }

    /** The minute, and how many are left at most. */
    private int[] looking() {
        List<int[]> turns = new ArrayList<>();
        for (int law : fitting()) {
            turns.add(turnsBy(law, 100));
        }
        int[] best = {-2, -2};
        for (int minute = 99; minute >= 0 && !turns.isEmpty(); minute--) {
            int[] counts = new int[9];
            for (int[] all : turns) {
                counts[all[minute / told.span]]++;
            }
            int most = Arrays.stream(counts).max().getAsInt();
            if (best[0] == -2 || most <= best[1]) {
                best = new int[] {minute, most};
            }
        }
        return best;
    }

    int look() {
        return told == null ? no(1) : yes(looking()[0]);
    }

    int lookLeaves() {
        return told == null ? no(1) : yes(looking()[1]);
    }

    private int ownLaw() {
        return 100 * told.times + 10 * told.plus + told.first;
    }

    int lawsLike() {
        if (told == null) {
            return no(1);
        }
        int count = 0;
        int[] own = turnsBy(ownLaw(), 200);
        for (int law : allLaws()) {
            count += Arrays.equals(turnsBy(law, 200), own) ? 1 : 0;
        }
        return yes(count);
    }

    int lawFor(int f, int n) {
        if (noFigure(f)) {
            return no(1);
        }
        if (out(n, 0, 99)) {
            return no(2);
        }
        for (int law : allLaws()) {
            if (turnsBy(law, n + 1)[n] == f) {
                return yes(law);
            }
        }
        return yes(-1000);
    }

    int judge() {
        if (told == null) {
            return no(1);
        }
        for (int i = 0; i < told.seen.size(); i++) {
            if (aliveAt(ownLaw(), told.seen.get(i)[1]) != told.seen.get(i)[0]) {
                return yes(i);
            }
        }
        return yes(-2);
    }

    // ---- figure and attendant: rows: moves or stands; columns: turns or waits; the figure's, then the attendant's

    private static int[][] shares(int wax) {
        return new int[][] {{0 - wax, 3}, {4, 0}, {1, -1}, {0, 1}};
    }

    private static int cell(boolean moves, boolean turns) {
        return (moves ? 0 : 2) + (turns ? 0 : 1);
    }

    int dares(int wax, boolean moves, boolean turns, boolean ofAttendant) {
        if (told == null || out(wax, 0, 9)) {
            no(told == null ? 1 : 2);
            return -100;
        }
        return yes(shares(wax)[cell(moves, turns)][ofAttendant ? 1 : 0]);
    }

    private static List<Integer> restsOf(int wax) {
        List<Integer> all = new ArrayList<>();
        int[][] s = shares(wax);
        for (int code : new int[] {0, 1, 10, 11}) {
            boolean moves = code >= 10;
            boolean turns = code % 10 == 1;
            int[] here = s[cell(moves, turns)];
            if (here[0] >= s[cell(!moves, turns)][0] && here[1] >= s[cell(moves, !turns)][1]) {
                all.add(code);
            }
        }
        return all;
    }

    int rests(int wax) {
        return told == null ? no(1) : out(wax, 0, 9) ? no(2) : yes(restsOf(wax).size());
    }

    int rest(int wax) {
        return told == null ? no(1) : out(wax, 0, 9) ? no(2) : yes(restsOf(wax).isEmpty() ? -2 : restsOf(wax).get(0));
    }

    // ---- shut turns

    /** Over all ways in which the next n can be shut: the sum of weights (of 100 to the n) times what counts. */
    private long chance(int f, int n, boolean lower, boolean mean) {
        int[] all = turns(n + 1);
        BigInteger sum = BigInteger.ZERO;
        for (int shut = 0; shut < 1 << n; shut++) {
            BigInteger weight = BigInteger.ONE;
            int count = 0;
            for (int i = 0; i < n; i++) {
                boolean isShut = (shut >> i & 1) == 1;
                weight = weight.multiply(BigInteger.valueOf(isShut ? told.shut : 100 - told.shut));
                count += !isShut && all[i + 1] == f ? 1 : 0;
            }
            sum = sum.add(weight.multiply(BigInteger.valueOf(mean ? count : Math.min(1, count))));
        }
        BigInteger whole = BigInteger.valueOf(100).pow(n);
        BigInteger common = sum.gcd(whole);
        return (lower ? whole : sum).divide(common).longValueExact();
    }

    private long chances(int f, int n, boolean lower, boolean mean) {
        if (noFigure(f)) {
            return no(1);
        }
        if (out(n, 0, 8)) {
            return no(2);
        }
        yes(0);
        return chance(f, n, lower, mean);
    }

    long odds(int f, int n, boolean lower) {
        return chances(f, n, lower, false);
    }

    long mean(int f, int n, boolean lower) {
        return chances(f, n, lower, true);
    }

    private boolean[] shutBy(int seed, int n) {
        boolean[] all = new boolean[n + 1];
        long s = seed;
        for (int i = 1; i <= n; i++) {
            s = (75 * s + 74) % 65537;
            all[i] = s % 100 < told.shut;
        }
        return all;
    }

    int drawn(int f, int seed, int n) {
        if (noFigure(f)) {
            return no(1);
        }
        if (out(seed, 0, 65536) || out(n, 0, 200)) {
            return no(2);
        }
        int count = 0;
        for (int i = 1; i <= n; i++) {
            count += turns(n + 1)[i] == f && !shutBy(seed, n)[i] ? 1 : 0;
        }
        return yes(count);
    }

    int firstShut(int seed, int n) {
        if (told == null) {
            return no(1);
        }
        if (out(seed, 0, 65536) || out(n, 0, 200)) {
            return no(2);
        }
        for (int i = 1; i <= n; i++) {
            if (shutBy(seed, n)[i]) {
                return yes(i);
            }
        }
        return yes(-2);
    }

    // ---- acts

    private void keep() {
        past.addLast(now.copy());
        if (past.size() > 16) {
            past.removeFirst();
        }
    }

    int go(int n) {
        if (told == null) {
            return no(1);
        }
        if (out(n, 1, 60)) {
            return no(2);
        }
        if (now.minute + n > 9999) {
            return no(3);
        }
        keep();
        int before = now.goneBits(9);
        now = film(n).get(n);
        return yes(now.goneBits(9) - before);
    }

    int put(int f) {
        if (noFigure(f)) {
            return no(1);
        }
        if (now.gone[f] || now.at[f] == f) {
            return no(5);
        }
        keep();
        int was = now.at[f];
        now.at[f] = f;
        return yes(was);
    }

    int wind(int f) {
        if (noFigure(f)) {
            return no(1);
        }
        if (now.turn == f && now.inTurn == 0) {
            return no(5);
        }
        keep();
        int was = now.turn;
        now.turn = f;
        now.inTurn = 0;
        return yes(was);
    }

    boolean undo() {
        if (past.isEmpty()) {
            trouble = 6;
            return false;
        }
        now = past.removeLast();
        trouble = 0;
        return true;
    }

    int image() {
        if (told == null) {
            return no(1);
        }
        if (images.size() == 3) {
            return no(3);
        }
        images.add(now.copy());
        return yes(images.size() - 1);
    }

    boolean back(int image) {
        if (out(image, 0, images.size() - 1)) {
            trouble = 1;
            return false;
        }
        now = images.get(image).copy();
        past.clear();
        trouble = 0;
        return true;
    }

    // ---- what is told

    /** NONE where the call throws. */
    int led(int i) {
        List<Integer> all = new ArrayList<>();
        for (int f = 0; told != null && f < told.figures; f++) {
            if (now.at[f] != f) {
                all.add(f);
            }
        }
        return i < 0 || i >= all.size() ? -1 : all.get(i);
    }

    int size(int what) {
        if (what == 13) {
            return tape.length();
        }
        if (out(what, 0, 13)) {
            return -1;
        }
        if (told == null) {
            return 0;
        }
        int[] all = {told.figures, told.span, told.stairs, told.shut, told.toldFigures, told.watchers.size(),
            told.seen.size(), told.times, told.plus, told.first, now.minute, past.size(), images.size()};
        return all[what];
    }

    int trouble() {
        return trouble;
    }
}
