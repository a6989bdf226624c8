import java.util.NoSuchElementException;

/** Waxworks that take turns. What each call promises stands in the project's document, by the call's name. */
public final class WaxTurns {
    public static final int NONE = -1;

    private static final int NEVER = -2;
    private static final int NO_SHARE = -100;

    private static final int NO_SUCH = 1;
    private static final int BAD_NUMBER = 2;
    private static final int NO_ROOM = 3;
    private static final int FAULTY = 4;
    private static final int NOT_SO = 5;
    private static final int NOTHING_THERE = 6;

    private static final int STIFF = 0;
    private static final int WALKS = 1;
    private static final int SPEAKS = 2;

    private static final int TAPE_ROOM = 900;
    private static final int FED_BYTES = 20;
    private static final int MOST_FIGURES = 9;
    private static final int MOST_WATCHERS = 3;
    private static final int MOST_SEEN = 6;
    private static final int MOST_LAWS = MOST_FIGURES * MOST_FIGURES * MOST_FIGURES;
    private static final int MOST_UNDONE = 16;
    private static final int MOST_IMAGES = 3;
    private static final int FAR = 300;
    private static final int NEAR = 60;
    private static final int LAST_MINUTE = 999;
    private static final int LAST_LOOK = 99;
    private static final int MOST_MINUTES = 9999;
    private static final int LATEST_TURN = 2000000000;
    private static final int MOST_CHANCE_TURNS = 8;
    private static final int MOST_DRAWN_TURNS = 200;
    private static final int SEEDS = 65537;
    private static final int MOST_WAX = 9;

    private final Reader reader;
    private final Scene now;
    private final Scene ahead;
    private final Watchers trial;
    private final History history;
    private final Laws laws;
    private final Routes routes;
    private Hall hall;
    private int latestTrouble;
    private int latestFault;
    private int faultPlace;

    public WaxTurns() {
        reader = new Reader();
        now = new Scene();
        ahead = new Scene();
        trial = new Watchers();
        history = new History();
        laws = new Laws();
        routes = new Routes();
        hall = new Hall();
        latestTrouble = 0;
        latestFault = 0;
        faultPlace = NONE;
    }

    // ---- the gallery

    public int feed(int a, int b, int c, int d, int e) {
        if (reader.tapeSize + FED_BYTES > TAPE_ROOM) {
            return NONE;
        }
        reader.append(a);
        reader.append(b);
        reader.append(c);
        reader.append(d);
        reader.append(e);
        return reader.tapeSize;
    }

    public int gallery(int n) {
        if (!within(n, 0, reader.tapeSize)) {
            return refused(BAD_NUMBER);
        }
        boolean sound = reader.read(n);
        latestFault = reader.faultNumber;
        faultPlace = reader.faultPlace;
        if (!sound) {
            return refused(FAULTY);
        }
        hall = reader.exchange(hall);
        now.begin(hall.first);
        history.clear();
        laws.forget();
        return answered(hall.figures);
    }

    public int fault() {
        return latestFault;
    }

    public int where() {
        return latestTrouble == FAULTY ? faultPlace : NONE;
    }

    // ---- now

    public int figure(int f, int what) {
        if (!isFigure(f) || !within(what, 0, 4)) {
            return refused(NO_SUCH);
        }
        switch (what) {
            case 0:
                return answered(hall.kinds[f]);
            case 1:
                return answered(hall.measures[f]);
            case 2:
                return answered(now.places[f]);
            case 3:
                return answered(now.isGone(f) ? 1 : 0);
            default:
                return answered(now.heardBits[f]);
        }
    }

    public int watcher(int w, int what) {
        if (!isWatcher(w) || !within(what, 0, 2)) {
            return refused(NO_SUCH);
        }
        switch (what) {
            case 0:
                return answered(hall.watchers.from[w]);
            case 1:
                return answered(hall.watchers.to[w]);
            default:
                return answered(hall.watchers.placeOf(w, now.minute));
        }
    }

    public int alive() {
        if (!hasGallery()) {
            return refused(NO_SUCH);
        }
        return answered(now.turn);
    }

    public int left() {
        if (!hasGallery()) {
            return refused(NO_SUCH);
        }
        return answered(hall.span - now.spent);
    }

    public int caught() {
        if (!hasGallery()) {
            return refused(NO_SUCH);
        }
        return answered(now.catchCount);
    }

    // ---- turns, by the law

    public int turnOf(int n) {
        if (!hasGallery()) {
            return refused(NO_SUCH);
        }
        if (!within(n, 0, LATEST_TURN)) {
            return refused(BAD_NUMBER);
        }
        return answered(turnFromNow(n));
    }

    public int turnIn(int f) {
        if (!isFigure(f)) {
            return refused(NO_SUCH);
        }
        int who = now.turn;
        for (int n = 0; n < hall.figures; n++) {
            if (who == f) {
                return answered(n);
            }
            who = hall.next(who);
        }
        return answered(NEVER);
    }

    public int settles() {
        if (!hasGallery()) {
            return refused(NO_SUCH);
        }
        int length = roundLength();
        int n = 0;
        while (n < hall.figures && turnFromNow(n) != turnFromNow(n + length)) {
            n++;
        }
        return answered(n);
    }

    public int round() {
        if (!hasGallery()) {
            return refused(NO_SUCH);
        }
        return answered(roundLength());
    }

    public int called() {
        if (!hasGallery()) {
            return refused(NO_SUCH);
        }
        int bits = 0;
        int who = now.turn;
        for (int n = 0; n < hall.figures; n++) {
            bits |= 1 << who;
            who = hall.next(who);
        }
        return answered(bits);
    }

    public int minutesOf(int f, int n) {
        if (!isFigure(f)) {
            return refused(NO_SUCH);
        }
        if (!within(n, 0, LAST_MINUTE)) {
            return refused(BAD_NUMBER);
        }
        int count = 0;
        int who = now.turn;
        int spent = now.spent;
        for (int i = 0; i < n; i++) {
            if (who == f) {
                count++;
            }
            spent++;
            if (spent >= hall.span) {
                spent = 0;
                who = hall.next(who);
            }
        }
        return answered(count);
    }

    // ---- minutes to come

    public int place(int f, int n) {
        int number = troubleOfFigureWithin(f, n, FAR);
        if (number != 0) {
            return refused(number);
        }
        runAhead(n);
        return answered(ahead.places[f]);
    }

    public int watch(int w, int n) {
        if (!isWatcher(w)) {
            return refused(NO_SUCH);
        }
        if (!within(n, 1, FAR)) {
            return refused(BAD_NUMBER);
        }
        return answered(hall.watchers.placeOf(w, now.minute + n - 1));
    }

    public int gone(int n) {
        int number = troubleOfNumber(n, 0, FAR);
        if (number != 0) {
            return refused(number);
        }
        runAhead(n);
        return answered(ahead.goneBits);
    }

    public int stairs() {
        if (!hasGallery()) {
            return refused(NO_SUCH);
        }
        ahead.copyFrom(now);
        return answered(minutesTillGone(hall.watchers, FAR));
    }

    public int catches(int n) {
        int number = troubleOfNumber(n, 0, FAR);
        if (number != 0) {
            return refused(number);
        }
        runAhead(n);
        return answered(ahead.catchCount - now.catchCount);
    }

    public int heard(int f, int n) {
        int number = troubleOfFigureWithin(f, n, FAR);
        if (number != 0) {
            return refused(number);
        }
        ahead.copyFrom(now);
        // What ACTS let hear does not count here, though the scene carries it.
        ahead.heardBits[f] = 0;
        passAhead(n);
        return answered(ahead.heardBits[f]);
    }

    public int allIn(int f) {
        if (!isFigure(f)) {
            return refused(NO_SUCH);
        }
        if (hall.kinds[f] != SPEAKS) {
            return answered(NEVER);
        }
        int all = (1 << hall.measures[f]) - 1;
        ahead.copyFrom(now);
        int minutes = 0;
        while (minutes < FAR && ahead.heardBits[f] != all) {
            hall.pass(ahead, hall.watchers);
            minutes++;
        }
        return answered(ahead.heardBits[f] == all ? minutes : NEVER);
    }

    public int meets(int w) {
        if (!isWatcher(w)) {
            return refused(NO_SUCH);
        }
        ahead.copyFrom(now);
        for (int i = 1; i <= FAR; i++) {
            int watcherPlace = hall.watchers.placeOf(w, ahead.minute);
            if (watcherPlace == placeOfActing()) {
                return answered(i);
            }
        }
        return answered(NEVER);
    }

    public int crowd(int n) {
        int number = troubleOfNumber(n, 0, FAR);
        if (number != 0) {
            return refused(number);
        }
        runAhead(n);
        int fullest = 0;
        for (int p = 1; p < hall.figures; p++) {
            if (crowdAt(p) > crowdAt(fullest)) {
                fullest = p;
            }
        }
        return answered(fullest);
    }

    public int farthest(int n) {
        int number = troubleOfNumber(n, 0, FAR);
        if (number != 0) {
            return refused(number);
        }
        runAhead(n);
        int chosen = 0;
        for (int f = 1; f < hall.figures; f++) {
            if (Math.abs(ahead.places[f] - f) > Math.abs(ahead.places[chosen] - chosen)) {
                chosen = f;
            }
        }
        return answered(chosen);
    }

    public int nearBy(int f, int n) {
        int number = troubleOfFigureWithin(f, n, FAR);
        if (number != 0) {
            return refused(number);
        }
        ahead.copyFrom(now);
        int count = 0;
        for (int i = 0; i < n; i++) {
            int watched = hall.watchers.placesIn(ahead.minute);
            hall.pass(ahead, hall.watchers);
            if (!ahead.isGone(f) && hasBit(watched, ahead.places[f])) {
                count++;
            }
        }
        return answered(count);
    }

    public int spoken(int f, int n) {
        int number = troubleOfFigureWithin(f, n, FAR);
        if (number != 0) {
            return refused(number);
        }
        ahead.copyFrom(now);
        int bits = 0;
        for (int i = 0; i < n; i++) {
            if (ahead.turn == f) {
                bits |= hall.partSaid(f, ahead.spent + 1);
            }
            hall.pass(ahead, hall.watchers);
        }
        return answered(bits);
    }

    // ---- an attendant, guards

    public int route(int place, int n) {
        if (!isPlace(place)) {
            return refused(NO_SUCH);
        }
        if (!within(n, 1, NEAR)) {
            return refused(BAD_NUMBER);
        }
        planRoutes(n);
        return answered(routes.minutesWith(place));
    }

    public int routeAt(int place, int n, int i) {
        if (!isPlace(place) || !within(i, 1, n)) {
            return refused(NO_SUCH);
        }
        if (!within(n, 1, NEAR)) {
            return refused(BAD_NUMBER);
        }
        planRoutes(n);
        return answered(routes.placeIn(i, place));
    }

    public int stand(int n) {
        int number = troubleOfNumber(n, 1, NEAR);
        if (number != 0) {
            return refused(number);
        }
        planRoutes(n);
        int best = 0;
        for (int p = 1; p < hall.figures; p++) {
            if (routes.minutesWith(p) > routes.minutesWith(best)) {
                best = p;
            }
        }
        return answered(best);
    }

    public int guard(int n) {
        int number = troubleOfNumber(n, 1, NEAR);
        if (number != 0) {
            return refused(number);
        }
        trial.copyFrom(hall.watchers);
        if (postsHold(0, n)) {
            return answered(0);
        }
        // One at the stairs catches each who steps there, so two PLACES are never the fewest.
        for (int p = 0; p < hall.figures; p++) {
            if (postsHold(1 << p, n)) {
                return answered(1 << p);
            }
        }
        return answered(NEVER);
    }

    public int windBest() {
        if (!hasGallery()) {
            return refused(NO_SUCH);
        }
        int best = 0;
        int longest = NONE;
        for (int f = 0; f < hall.figures; f++) {
            ahead.copyFrom(now);
            ahead.startTurn(f);
            int minutes = minutesTillGone(hall.watchers, FAR);
            if (minutes == NEVER) {
                minutes = FAR + 1;
            }
            if (minutes > longest) {
                longest = minutes;
                best = f;
            }
        }
        return answered(best);
    }

    public int patrol(int w, int n) {
        if (!isWatcher(w)) {
            return refused(NO_SUCH);
        }
        if (!within(n, 1, NEAR)) {
            return refused(BAD_NUMBER);
        }
        trial.copyFrom(hall.watchers);
        int best = 0;
        int fewestGone = MOST_FIGURES + 1;
        int mostCaught = 0;
        for (int walk = 0; walk < hall.figures * hall.figures; walk++) {
            trial.from[w] = walk / hall.figures;
            trial.to[w] = walk % hall.figures;
            runAheadOnTrial(n);
            int goneCount = Integer.bitCount(ahead.goneBits);
            boolean better = goneCount < fewestGone;
            if (better || (goneCount == fewestGone && ahead.catchCount > mostCaught)) {
                fewestGone = goneCount;
                mostCaught = ahead.catchCount;
                best = 10 * trial.from[w] + trial.to[w];
            }
        }
        return answered(best);
    }

    // ---- laws

    public int fits() {
        if (!hasGallery()) {
            return refused(NO_SUCH);
        }
        laws.list(hall);
        return answered(laws.fitCount);
    }

    public int fitAt(int i) {
        if (!hasGallery()) {
            return refused(NO_SUCH);
        }
        laws.list(hall);
        if (!within(i, 0, laws.fitCount - 1)) {
            return refused(NO_SUCH);
        }
        return answered(laws.fitting[i]);
    }

    public int could(int minute) {
        int number = troubleOfNumber(minute, 0, LAST_MINUTE);
        if (number != 0) {
            return refused(number);
        }
        laws.list(hall);
        int bits = 0;
        for (int i = 0; i < laws.fitCount; i++) {
            bits |= 1 << hall.aliveByLaw(laws.fitting[i], minute);
        }
        return answered(bits);
    }

    public int aliveBy(int f, int minute) {
        int number = troubleOfFigureWithin(f, minute, LAST_MINUTE);
        if (number != 0) {
            return refused(number);
        }
        laws.list(hall);
        int count = 0;
        for (int i = 0; i < laws.fitCount; i++) {
            if (hall.aliveByLaw(laws.fitting[i], minute) == f) {
                count++;
            }
        }
        return answered(count);
    }

    public int look() {
        if (!hasGallery()) {
            return refused(NO_SUCH);
        }
        laws.chooseLook(hall);
        return answered(laws.lookMinute);
    }

    public int lookLeaves() {
        if (!hasGallery()) {
            return refused(NO_SUCH);
        }
        laws.chooseLook(hall);
        return answered(laws.lookMost);
    }

    public int lawsLike() {
        if (!hasGallery()) {
            return refused(NO_SUCH);
        }
        int count = 0;
        for (int times = 0; times < hall.figures; times++) {
            for (int plus = 0; plus < hall.figures; plus++) {
                if (hall.goesLike(times, plus)) {
                    count++;
                }
            }
        }
        return answered(count);
    }

    public int lawFor(int f, int n) {
        int number = troubleOfFigureWithin(f, n, LAST_LOOK);
        if (number != 0) {
            return refused(number);
        }
        // With times 0 every TURN but the first is that of plus, so no law of a lesser number does.
        return answered(n == 0 ? f : 10 * f);
    }

    public int judge() {
        if (!hasGallery()) {
            return refused(NO_SUCH);
        }
        int law = 100 * hall.times + 10 * hall.plus + hall.first;
        for (int i = 0; i < hall.seenCount; i++) {
            if (hall.aliveByLaw(law, hall.seenMinutes[i]) != hall.seenFigures[i]) {
                return answered(i);
            }
        }
        return answered(NEVER);
    }

    // ---- figure and attendant

    public int dares(int wax, boolean moves, boolean turns, boolean ofAttendant) {
        int number = troubleOfNumber(wax, 0, MOST_WAX);
        if (number != 0) {
            latestTrouble = number;
            return NO_SHARE;
        }
        return answered(ofAttendant ? attendantShare(moves, turns) : figureShare(wax, moves, turns));
    }

    public int rests(int wax) {
        int number = troubleOfNumber(wax, 0, MOST_WAX);
        if (number != 0) {
            return refused(number);
        }
        int count = 0;
        for (int pair = 0; pair < 4; pair++) {
            if (isRest(wax, pair >= 2, pair % 2 == 1)) {
                count++;
            }
        }
        return answered(count);
    }

    public int rest(int wax) {
        int number = troubleOfNumber(wax, 0, MOST_WAX);
        if (number != 0) {
            return refused(number);
        }
        for (int pair = 0; pair < 4; pair++) {
            if (isRest(wax, pair >= 2, pair % 2 == 1)) {
                return answered(10 * (pair / 2) + pair % 2);
            }
        }
        return answered(NEVER);
    }

    // ---- shut turns

    public long odds(int f, int n, boolean lower) {
        int number = troubleOfFigureWithin(f, n, MOST_CHANCE_TURNS);
        if (number != 0) {
            return refused(number);
        }
        long ways = 1;
        long shutWays = 1;
        int own = ownTurns(f, n);
        for (int i = 0; i < own; i++) {
            ways *= 100;
            shutWays *= hall.shut;
        }
        latestTrouble = 0;
        return inLowestTerms(ways - shutWays, ways, lower);
    }

    public long mean(int f, int n, boolean lower) {
        int number = troubleOfFigureWithin(f, n, MOST_CHANCE_TURNS);
        if (number != 0) {
            return refused(number);
        }
        latestTrouble = 0;
        return inLowestTerms((long) ownTurns(f, n) * (100 - hall.shut), 100, lower);
    }

    public int drawn(int f, int seed, int n) {
        if (!isFigure(f)) {
            return refused(NO_SUCH);
        }
        if (!within(seed, 0, SEEDS - 1) || !within(n, 0, MOST_DRAWN_TURNS)) {
            return refused(BAD_NUMBER);
        }
        int count = 0;
        int draw = seed;
        int who = now.turn;
        for (int i = 1; i <= n; i++) {
            draw = nextDraw(draw);
            who = hall.next(who);
            if (who == f && !isShut(draw)) {
                count++;
            }
        }
        return answered(count);
    }

    public int firstShut(int seed, int n) {
        if (!hasGallery()) {
            return refused(NO_SUCH);
        }
        if (!within(seed, 0, SEEDS - 1) || !within(n, 0, MOST_DRAWN_TURNS)) {
            return refused(BAD_NUMBER);
        }
        int draw = seed;
        for (int i = 1; i <= n; i++) {
            draw = nextDraw(draw);
            if (isShut(draw)) {
                return answered(i);
            }
        }
        return answered(NEVER);
    }

    // ---- acts

    public int go(int n) {
        int number = troubleOfNumber(n, 1, NEAR);
        if (number != 0) {
            return refused(number);
        }
        if (now.minute + n > MOST_MINUTES) {
            return refused(NO_ROOM);
        }
        history.keep(now);
        int goneBefore = now.goneBits;
        for (int i = 0; i < n; i++) {
            hall.pass(now, hall.watchers);
        }
        return answered(now.goneBits & ~goneBefore);
    }

    public int put(int f) {
        if (!isFigure(f)) {
            return refused(NO_SUCH);
        }
        if (now.isGone(f) || now.places[f] == f) {
            return refused(NOT_SO);
        }
        history.keep(now);
        int former = now.places[f];
        now.places[f] = f;
        return answered(former);
    }

    public int wind(int f) {
        if (!isFigure(f)) {
            return refused(NO_SUCH);
        }
        if (now.turn == f && now.spent == 0) {
            return refused(NOT_SO);
        }
        history.keep(now);
        int former = now.turn;
        now.startTurn(f);
        return answered(former);
    }

    public boolean undo() {
        boolean undone = history.takeLatest(now);
        latestTrouble = undone ? 0 : NOTHING_THERE;
        return undone;
    }

    public int image() {
        if (!hasGallery()) {
            return refused(NO_SUCH);
        }
        if (history.imageCount >= MOST_IMAGES) {
            return refused(NO_ROOM);
        }
        return answered(history.addImage(now));
    }

    public boolean back(int image) {
        boolean gone = history.goBack(image, now);
        latestTrouble = gone ? 0 : NO_SUCH;
        return gone;
    }

    // ---- what is told

    public int led(int i) throws NoSuchElementException {
        int count = 0;
        for (int f = 0; f < hall.figures; f++) {
            if (now.places[f] != f) {
                if (count == i) {
                    return f;
                }
                count++;
            }
        }
        throw new NoSuchElementException("no such figure is led away");
    }

    public int size(int what) {
        switch (what) {
            case 10:
                return now.minute;
            case 11:
                return history.keptCount;
            case 12:
                return history.imageCount;
            case 13:
                return reader.tapeSize;
            default:
                return hall.sizeTold(what);
        }
    }

    public int trouble() {
        return latestTrouble;
    }

    // ---- what the calls share

    private int answered(int value) {
        latestTrouble = 0;
        return value;
    }

    private int refused(int number) {
        latestTrouble = number;
        return NONE;
    }

    private static boolean within(int value, int least, int most) {
        return value >= least && value <= most;
    }

    private static boolean hasBit(int bits, int i) {
        return ((bits >> i) & 1) == 1;
    }

    private boolean hasGallery() {
        return hall.figures > 0;
    }

    private boolean isFigure(int f) {
        return within(f, 0, hall.figures - 1);
    }

    private boolean isPlace(int place) {
        return within(place, 0, hall.figures - 1);
    }

    private boolean isWatcher(int w) {
        return within(w, 0, hall.watchers.count - 1);
    }

    private int troubleOfNumber(int n, int least, int most) {
        if (!hasGallery()) {
            return NO_SUCH;
        }
        return within(n, least, most) ? 0 : BAD_NUMBER;
    }

    private int troubleOfFigureWithin(int f, int n, int most) {
        if (!isFigure(f)) {
            return NO_SUCH;
        }
        return within(n, 0, most) ? 0 : BAD_NUMBER;
    }

    private int turnFromNow(int n) {
        return laterTurn(hall.figures, hall.times, hall.plus, now.turn, n);
    }

    private int roundLength() {
        // Behind as many TURNS as there are figures each further one is part of the round.
        int start = turnFromNow(hall.figures);
        int who = hall.next(start);
        int length = 1;
        while (length < hall.figures && who != start) {
            who = hall.next(who);
            length++;
        }
        return length;
    }

    /** Whose TURN comes so many TURNS behind one of from; the law is doubled, so that late TURNS take no longer. */
    private static int laterTurn(int figures, int times, int plus, int from, int turns) {
        if (figures <= 0) {
            return 0;
        }
        int factor = times;
        int summand = plus;
        int who = from;
        for (int togo = turns; togo > 0; togo >>= 1) {
            if ((togo & 1) == 1) {
                who = (who * factor + summand) % figures;
            }
            summand = (summand * factor + summand) % figures;
            factor = factor * factor % figures;
        }
        return who;
    }

    private void runAhead(int n) {
        ahead.copyFrom(now);
        passAhead(n);
    }

    private void passAhead(int n) {
        for (int i = 0; i < n; i++) {
            hall.pass(ahead, hall.watchers);
        }
    }

    private void runAheadOnTrial(int n) {
        ahead.copyFrom(now);
        for (int i = 0; i < n; i++) {
            hall.pass(ahead, trial);
        }
    }

    /** Lets a minute pass ahead: where the figure is whose TURN it was, NONE if it is GONE. */
    private int placeOfActing() {
        int f = ahead.turn;
        hall.pass(ahead, hall.watchers);
        return ahead.isGone(f) ? NONE : ahead.places[f];
    }

    private int minutesTillGone(Watchers watchers, int most) {
        int goneBefore = ahead.goneBits;
        for (int i = 1; i <= most; i++) {
            hall.pass(ahead, watchers);
            if (ahead.goneBits != goneBefore) {
                return i;
            }
        }
        return NEVER;
    }

    private int crowdAt(int place) {
        int count = 0;
        for (int f = 0; f < hall.figures; f++) {
            if (!ahead.isGone(f) && ahead.places[f] == place) {
                count++;
            }
        }
        return count;
    }

    private void planRoutes(int n) {
        ahead.copyFrom(now);
        for (int i = 1; i <= n; i++) {
            routes.aim(i, placeOfActing());
        }
        routes.weigh(n, hall.figures);
    }

    private boolean postsHold(int posts, int n) {
        trial.posts = posts;
        ahead.copyFrom(now);
        return minutesTillGone(trial, n) == NEVER;
    }

    private static int figureShare(int wax, boolean moves, boolean turns) {
        if (moves) {
            return turns ? -wax : 4;
        }
        return turns ? 1 : 0;
    }

    private static int attendantShare(boolean moves, boolean turns) {
        if (moves) {
            return turns ? 3 : 0;
        }
        return turns ? -1 : 1;
    }

    private static boolean isRest(int wax, boolean moves, boolean turns) {
        return figureShare(wax, moves, turns) >= figureShare(wax, !moves, turns)
            && attendantShare(moves, turns) >= attendantShare(moves, !turns);
    }

    private int ownTurns(int f, int n) {
        int count = 0;
        int who = now.turn;
        for (int i = 0; i < n; i++) {
            who = hall.next(who);
            if (who == f) {
                count++;
            }
        }
        return count;
    }

    private static long inLowestTerms(long upper, long under, boolean lower) {
        long divisor = under;
        long remainder = upper;
        // Each second step halves, so a long needs far fewer than 200.
        for (int i = 0; i < 200 && remainder != 0; i++) {
            long further = divisor % remainder;
            divisor = remainder;
            remainder = further;
        }
        long term = lower ? under : upper;
        return divisor == 0 ? term : term / divisor;
    }

    private static int nextDraw(int seed) {
        return (75 * seed + 74) % SEEDS;
    }

    private boolean isShut(int draw) {
        return draw % 100 < hall.shut;
    }

    /** All that ACTS change; it is copied whole for undoing, for IMAGES, and to look ahead. */
    private static final class Scene {
        int minute;
        int turn;
        int spent;
        int goneBits;
        int catchCount;
        final int[] places;
        final int[] heardBits;

        Scene() {
            places = new int[MOST_FIGURES];
            heardBits = new int[MOST_FIGURES];
        }

        void begin(int first) {
            minute = 0;
            goneBits = 0;
            catchCount = 0;
            for (int f = 0; f < MOST_FIGURES; f++) {
                places[f] = f;
                heardBits[f] = 0;
            }
            startTurn(first);
        }

        void startTurn(int f) {
            turn = f;
            spent = 0;
        }

        void copyFrom(Scene other) {
            minute = other.minute;
            turn = other.turn;
            spent = other.spent;
            goneBits = other.goneBits;
            catchCount = other.catchCount;
            for (int f = 0; f < MOST_FIGURES; f++) {
                places[f] = other.places[f];
                heardBits[f] = other.heardBits[f];
            }
        }

        boolean isGone(int f) {
            return hasBit(goneBits, f);
        }
    }

    /** Those who go to and fro, and PLACES at which somebody stands all the time (posts, as bits). */
    private static final class Watchers {
        int count;
        int posts;
        final int[] from;
        final int[] to;

        Watchers() {
            from = new int[MOST_WATCHERS];
            to = new int[MOST_WATCHERS];
        }

        void add(int start, int end) {
            if (count < MOST_WATCHERS) {
                from[count] = start;
                to[count] = end;
                count++;
            }
        }

        void copyFrom(Watchers other) {
            count = other.count;
            posts = other.posts;
            for (int w = 0; w < MOST_WATCHERS; w++) {
                from[w] = other.from[w];
                to[w] = other.to[w];
            }
        }

        int placeOf(int w, int minute) {
            boolean upwards = to[w] > from[w];
            int way = upwards ? to[w] - from[w] : from[w] - to[w];
            if (way <= 0) {
                return from[w];
            }
            int gone = minute % (2 * way);
            int off = gone <= way ? gone : 2 * way - gone;
            return upwards ? from[w] + off : from[w] - off;
        }

        int placesIn(int minute) {
            int bits = posts;
            for (int w = 0; w < count; w++) {
                bits |= 1 << placeOf(w, minute);
            }
            return bits;
        }
    }

    /** The GALLERY as told; one without figures stands for none. */
    private static final class Hall {
        int figures;
        int span;
        int stairsPlace;
        int shut;
        boolean lawTold;
        int times;
        int plus;
        int first;
        int toldBits;
        int seenCount;
        final int[] kinds;
        final int[] measures;
        final int[] seenFigures;
        final int[] seenMinutes;
        final Watchers watchers;

        Hall() {
            kinds = new int[MOST_FIGURES];
            measures = new int[MOST_FIGURES];
            seenFigures = new int[MOST_SEEN];
            seenMinutes = new int[MOST_SEEN];
            watchers = new Watchers();
        }

        void clear() {
            figures = 0;
            lawTold = false;
            toldBits = 0;
            seenCount = 0;
            watchers.count = 0;
            for (int f = 0; f < MOST_FIGURES; f++) {
                kinds[f] = STIFF;
                measures[f] = 0;
            }
        }

        void addFigure(int f, int kind, int measure) {
            if (f >= 0 && f < MOST_FIGURES) {
                toldBits |= 1 << f;
                kinds[f] = kind;
                measures[f] = measure;
            }
        }

        void addSeen(int f, int minute) {
            if (seenCount < MOST_SEEN) {
                seenFigures[seenCount] = f;
                seenMinutes[seenCount] = minute;
                seenCount++;
            }
        }

        boolean isSeenMinute(int minute) {
            for (int i = 0; i < seenCount; i++) {
                if (seenMinutes[i] == minute) {
                    return true;
                }
            }
            return false;
        }

        int sizeTold(int what) {
            switch (what) {
                case 0:
                    return figures;
                case 1:
                    return span;
                case 2:
                    return stairsPlace;
                case 3:
                    return shut;
                case 4:
                    return Integer.bitCount(toldBits);
                case 5:
                    return watchers.count;
                case 6:
                    return seenCount;
                case 7:
                    return times;
                case 8:
                    return plus;
                case 9:
                    return first;
                default:
                    return NONE;
            }
        }

        int next(int f) {
            return figures <= 0 ? 0 : (f * times + plus) % figures;
        }

        /** Who is alive at a minute from the beginning on by the law of a number. */
        int aliveByLaw(int number, int minute) {
            int turns = span <= 0 ? 0 : minute / span;
            return laterTurn(figures, number / 100, number / 10 % 10, number % 10, turns);
        }

        /** Whether a law goes on as the told one wherever that one comes to: then their TURNS are alike for ever. */
        boolean goesLike(int otherTimes, int otherPlus) {
            int who = first;
            for (int n = 0; n < figures; n++) {
                int following = next(who);
                if ((who * otherTimes + otherPlus) % figures != following) {
                    return false;
                }
                who = following;
            }
            return true;
        }

        void pass(Scene scene, Watchers rounds) {
            int f = scene.turn;
            int minuteOfTurn = scene.spent + 1;
            if (stepsIn(f, minuteOfTurn)) {
                step(scene, f, rounds);
            }
            int part = partSaid(f, minuteOfTurn);
            if (part != 0 && isHeardAt(scene.places[f], rounds.placesIn(scene.minute))) {
                scene.heardBits[f] |= part;
            }
            scene.minute++;
            scene.spent = minuteOfTurn;
            if (minuteOfTurn >= span) {
                scene.startTurn(next(f));
            }
        }

        /** Whether one that is not GONE steps in a minute of its TURN (the first one is 1). */
        private boolean stepsIn(int f, int minuteOfTurn) {
            if (!within(f, 0, MOST_FIGURES - 1) || kinds[f] != WALKS) {
                return false;
            }
            int pace = measures[f];
            return pace > 0 && minuteOfTurn % pace == 0;
        }

        private void step(Scene scene, int f, Watchers rounds) {
            if (scene.isGone(f)) {
                return;
            }
            int reached = nearer(scene.places[f]);
            if (hasBit(rounds.placesIn(scene.minute), reached)) {
                scene.catchCount++;
                reached = f;
            } else if (reached == stairsPlace) {
                scene.goneBits |= 1 << f;
            }
            scene.places[f] = reached;
        }

        private int nearer(int from) {
            if (from == stairsPlace) {
                return from;
            }
            return from < stairsPlace ? from + 1 : from - 1;
        }

        private static boolean isHeardAt(int from, int watched) {
            // The bits of the PLACE below, the PLACE itself and the one above.
            return (watched & ((7 << from) >> 1)) != 0;
        }

        /** The PART that a figure says in a minute of its TURN (the first one is 1), as a bit; 0 if it says none. */
        int partSaid(int f, int minuteOfTurn) {
            boolean speaks = within(f, 0, MOST_FIGURES - 1) && kinds[f] == SPEAKS;
            return speaks && minuteOfTurn <= measures[f] ? 1 << (minuteOfTurn - 1) : 0;
        }
    }

    /** THE TAPE, and the reading of its text up to the first FAULT, into a draft of a hall. */
    private static final class Reader {
        private static final int FORM = 1;
        private static final int AGAIN = 3;
        private static final int BOUNDS = 4;
        private static final int MANY = 5;
        private static final int LACKS = 6;

        private static final int END = 0;
        private static final int WORD = 1;
        private static final int WHOLE = 2;
        private static final int PARTING = 3;
        private static final int NO_TOKEN = 4;

        private static final int MOST_LETTERS = 8;
        private static final int MOST_DIGITS = 3;
        private static final int MOST_NAMES = MOST_FIGURES + MOST_WATCHERS;

        int tapeSize;
        int faultNumber;
        int faultPlace;
        private final byte[] tape;
        private final long[] names;
        private Hall draft;
        private int nameCount;
        private int end;
        private int start;
        private int behind;
        private int token;
        private long word;
        private int whole;
        private int taken;

        Reader() {
            tape = new byte[TAPE_ROOM];
            names = new long[MOST_NAMES];
            draft = new Hall();
        }

        void append(int number) {
            for (int shift = 24; shift >= 0 && tapeSize < TAPE_ROOM; shift -= 8) {
                tape[tapeSize] = (byte) (number >> shift);
                tapeSize++;
            }
        }

        /** Gives the draft away and takes a hall that is no longer used for the next one. */
        Hall exchange(Hall former) {
            Hall made = draft;
            draft = former;
            return made;
        }

        /** Reads so many bytes, and empties THE TAPE; false: there is a FAULT. */
        boolean read(int length) {
            end = Math.min(length, tapeSize);
            tapeSize = 0;
            draft.clear();
            nameCount = 0;
            faultNumber = 0;
            faultPlace = NONE;
            behind = 0;
            advance();
            boolean sound = readLine();
            for (int lines = 1; sound && token == PARTING && lines < TAPE_ROOM; lines++) {
                advance();
                sound = readLine();
            }
            if (!sound) {
                return false;
            }
            if (token != END) {
                return fails(FORM);
            }
            return draft.lawTold || fails(LACKS);
        }

        private boolean fails(int number) {
            faultNumber = number;
            faultPlace = start;
            return false;
        }

        private void advance() {
            while (behind < end && tape[behind] == ' ') {
                behind++;
            }
            start = behind;
            if (start >= end) {
                token = END;
            } else if (tape[start] == ';') {
                token = PARTING;
                behind++;
            } else if (tape[start] >= 'a' && tape[start] <= 'z') {
                scanWord();
            } else if (tape[start] >= '0' && tape[start] <= '9') {
                scanWhole();
            } else {
                token = NO_TOKEN;
            }
        }

        private void scanWord() {
            word = 0;
            while (behind < end && tape[behind] >= 'a' && tape[behind] <= 'z') {
                word = (word << 8) | tape[behind];
                behind++;
            }
            token = behind - start <= MOST_LETTERS ? WORD : NO_TOKEN;
        }

        private void scanWhole() {
            whole = 0;
            while (behind < end && tape[behind] >= '0' && tape[behind] <= '9') {
                whole = 10 * whole + tape[behind] - '0';
                behind++;
            }
            token = behind - start <= MOST_DIGITS ? WHOLE : NO_TOKEN;
        }

        private boolean isWord(String wanted) {
            if (token != WORD) {
                return false;
            }
            long packed = 0;
            for (int i = 0; i < wanted.length(); i++) {
                packed = (packed << 8) | wanted.charAt(i);
            }
            return word == packed;
        }

        private boolean readLine() {
            if (isWord("gallery")) {
                return draft.figures > 0 ? fails(AGAIN) : readHall();
            }
            if (!isWord("law") && !isWord("figure") && !isWord("watcher") && !isWord("seen")) {
                return fails(FORM);
            }
            if (draft.figures == 0) {
                return fails(LACKS);
            }
            if (isWord("law")) {
                return draft.lawTold ? fails(AGAIN) : readLaw();
            }
            if (isWord("figure")) {
                return Integer.bitCount(draft.toldBits) >= MOST_FIGURES ? fails(MANY) : readFigure();
            }
            if (isWord("watcher")) {
                return draft.watchers.count >= MOST_WATCHERS ? fails(MANY) : readWatcher();
            }
            return draft.seenCount >= MOST_SEEN ? fails(MANY) : readSeen();
        }

        private boolean readHall() {
            advance();
            if (!takeWhole("figures", 2, MOST_FIGURES)) {
                return false;
            }
            int figures = taken;
            if (!takeWhole("span", 1, 20)) {
                return false;
            }
            draft.span = taken;
            if (!takeWhole("stairs", 0, figures - 1)) {
                return false;
            }
            draft.stairsPlace = taken;
            if (!takeWhole("shut", 0, 100)) {
                return false;
            }
            draft.shut = taken;
            draft.figures = figures;
            return true;
        }

        private boolean readLaw() {
            advance();
            if (!takeWhole("times", 0, draft.figures - 1)) {
                return false;
            }
            draft.times = taken;
            if (!takeWhole("plus", 0, draft.figures - 1)) {
                return false;
            }
            draft.plus = taken;
            if (!takeWhole("first", 0, draft.figures - 1)) {
                return false;
            }
            draft.first = taken;
            draft.lawTold = true;
            return true;
        }

        private boolean readFigure() {
            advance();
            if (!takeName() || !takeWord("is") || !isWholeWithin(0, draft.figures - 1)) {
                return false;
            }
            int f = whole;
            if (hasBit(draft.toldBits, f)) {
                return fails(AGAIN);
            }
            advance();
            int kind = isWord("walks") ? WALKS : SPEAKS;
            if (!takeWhole(kind == WALKS ? "walks" : "speaks", 1, 20)) {
                return false;
            }
            draft.addFigure(f, kind, taken);
            return true;
        }

        private boolean readWatcher() {
            advance();
            if (!takeName() || !takeWhole("from", 0, draft.figures - 1)) {
                return false;
            }
            int from = taken;
            if (!takeWhole("to", 0, draft.figures - 1)) {
                return false;
            }
            draft.watchers.add(from, taken);
            return true;
        }

        private boolean readSeen() {
            if (!takeWhole("seen", 0, draft.figures - 1)) {
                return false;
            }
            int f = taken;
            if (!takeWord("at") || !isWholeWithin(0, LAST_MINUTE)) {
                return false;
            }
            if (draft.isSeenMinute(whole)) {
                return fails(AGAIN);
            }
            draft.addSeen(f, whole);
            advance();
            return true;
        }

        private boolean takeWord(String wanted) {
            if (!isWord(wanted)) {
                return fails(FORM);
            }
            advance();
            return true;
        }

        private boolean isWholeWithin(int least, int most) {
            if (token != WHOLE) {
                return fails(FORM);
            }
            return within(whole, least, most) || fails(BOUNDS);
        }

        /** Takes a WORD and the WHOLE behind it. */
        private boolean takeWhole(String wordAhead, int least, int most) {
            if (!isWord(wordAhead)) {
                return fails(FORM);
            }
            advance();
            if (!isWholeWithin(least, most)) {
                return false;
            }
            taken = whole;
            advance();
            return true;
        }

        private boolean takeName() {
            if (token != WORD || isWord("gallery") || isWord("law") || isWord("figure")
                || isWord("watcher") || isWord("seen")) {
                return fails(FORM);
            }
            for (int i = 0; i < nameCount; i++) {
                if (names[i] == word) {
                    return fails(AGAIN);
                }
            }
            if (nameCount < MOST_NAMES) {
                names[nameCount] = word;
                nameCount++;
            }
            advance();
            return true;
        }
    }

    /** What can be undone, and IMAGES. */
    private static final class History {
        int keptCount;
        int imageCount;
        private int latest;
        private final Scene[] kept;
        private final Scene[] images;

        History() {
            kept = new Scene[MOST_UNDONE];
            for (int i = 0; i < MOST_UNDONE; i++) {
                kept[i] = new Scene();
            }
            images = new Scene[MOST_IMAGES];
            for (int i = 0; i < MOST_IMAGES; i++) {
                images[i] = new Scene();
            }
        }

        void clear() {
            keptCount = 0;
            imageCount = 0;
        }

        void keep(Scene scene) {
            // The slots go round, so that the oldest one gives way.
            latest = (latest + 1) % MOST_UNDONE;
            kept[latest].copyFrom(scene);
            keptCount = Math.min(keptCount + 1, MOST_UNDONE);
        }

        boolean takeLatest(Scene into) {
            if (keptCount == 0) {
                return false;
            }
            into.copyFrom(kept[latest]);
            latest = (latest + MOST_UNDONE - 1) % MOST_UNDONE;
            keptCount--;
            return true;
        }

        int addImage(Scene scene) {
            if (imageCount >= MOST_IMAGES) {
                return NONE;
            }
            images[imageCount].copyFrom(scene);
            imageCount++;
            return imageCount - 1;
        }

        boolean goBack(int number, Scene into) {
            if (!within(number, 0, imageCount - 1)) {
                return false;
            }
            into.copyFrom(images[number]);
            keptCount = 0;
            return true;
        }
    }

    /** The laws that fit what was seen; found once a GALLERY, for they do not change with ACTS. */
    private static final class Laws {
        int fitCount;
        int lookMinute;
        int lookMost;
        final int[] fitting;
        private final int[] tallies;
        private boolean listed;
        private boolean looked;

        Laws() {
            fitting = new int[MOST_LAWS];
            tallies = new int[(LAST_LOOK + 1) * MOST_FIGURES];
        }

        void forget() {
            listed = false;
            looked = false;
        }

        void list(Hall hall) {
            if (listed) {
                return;
            }
            listed = true;
            fitCount = 0;
            for (int times = 0; times < hall.figures; times++) {
                for (int plus = 0; plus < hall.figures; plus++) {
                    for (int first = 0; first < hall.figures; first++) {
                        addIfFit(hall, 100 * times + 10 * plus + first);
                    }
                }
            }
        }

        private void addIfFit(Hall hall, int number) {
            for (int i = 0; i < hall.seenCount; i++) {
                if (hall.aliveByLaw(number, hall.seenMinutes[i]) != hall.seenFigures[i]) {
                    return;
                }
            }
            if (fitCount < MOST_LAWS) {
                fitting[fitCount] = number;
                fitCount++;
            }
        }

        void chooseLook(Hall hall) {
            if (looked) {
                return;
            }
            list(hall);
            looked = true;
            lookMinute = NEVER;
            lookMost = NEVER;
            if (fitCount == 0 || hall.span <= 0) {
                return;
            }
            // All minutes of a TURN tell the same, so its first one stands for them.
            int turns = LAST_LOOK / hall.span + 1;
            tally(hall.figures, turns);
            for (int turn = 0; turn < turns; turn++) {
                int most = mostOf(turn);
                if (lookMost == NEVER || most < lookMost) {
                    lookMost = most;
                    lookMinute = turn * hall.span;
                }
            }
        }

        private void tally(int figures, int turns) {
            for (int i = 0; i < tallies.length; i++) {
                tallies[i] = 0;
            }
            if (figures <= 0 || turns > LAST_LOOK + 1) {
                return;
            }
            for (int i = 0; i < fitCount; i++) {
                int times = fitting[i] / 100;
                int plus = fitting[i] / 10 % 10;
                int who = fitting[i] % 10;
                for (int turn = 0; turn < turns; turn++) {
                    tallies[turn * MOST_FIGURES + who]++;
                    who = (who * times + plus) % figures;
                }
            }
        }

        private int mostOf(int turn) {
            int most = 0;
            for (int f = 0; f < MOST_FIGURES; f++) {
                most = Math.max(most, tallies[turn * MOST_FIGURES + f]);
            }
            return most;
        }
    }

    /** The best ways of an attendant, weighed from the last minute to the first. */
    private static final class Routes {
        private int figures;
        private final int[] aims;
        private final int[] bestBehind;

        Routes() {
            aims = new int[NEAR + 1];
            bestBehind = new int[(NEAR + 1) * MOST_FIGURES];
        }

        /** Where one is WITH the figure in a minute (1 .. 60); NONE: nowhere. */
        void aim(int minute, int place) {
            if (within(minute, 1, NEAR)) {
                aims[minute] = place;
            }
        }

        void weigh(int minutes, int places) {
            figures = Math.min(places, MOST_FIGURES);
            int last = Math.min(minutes, NEAR);
            for (int p = 0; p < figures; p++) {
                bestBehind[last * MOST_FIGURES + p] = 0;
            }
            for (int minute = last; minute >= 1; minute--) {
                for (int p = 0; p < figures; p++) {
                    bestBehind[(minute - 1) * MOST_FIGURES + p] = worth(minute, step(minute, p));
                }
            }
        }

        private int worth(int minute, int place) {
            return bestBehind[minute * MOST_FIGURES + place] + (aims[minute] == place ? 1 : 0);
        }

        /** Where to be in a minute, from a PLACE: only a better worth beats staying, or down, which come ahead. */
        private int step(int minute, int place) {
            int chosen = place;
            if (place > 0 && worth(minute, place - 1) > worth(minute, chosen)) {
                chosen = place - 1;
            }
            if (place + 1 < figures && worth(minute, place + 1) > worth(minute, chosen)) {
                chosen = place + 1;
            }
            return chosen;
        }

        int minutesWith(int place) {
            return within(place, 0, figures - 1) ? bestBehind[place] : 0;
        }

        int placeIn(int minute, int place) {
            int at = place;
            for (int i = 1; i <= minute && i <= NEAR; i++) {
                at = step(i, at);
            }
            return at;
        }
    }
}
