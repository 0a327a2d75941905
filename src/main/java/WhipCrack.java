/**
 * A crack of the whip: plaits, ways of a hand, throws in whole hairs, and what follows from them.
 * The document's numbered promises say what each public method answers.
 *
 * All rows are made by the constructor and used again, so that no call makes an object.
 */
public final class WhipCrack {
    public static final int NONE = -1, UNKNOWN = -1001, OUTSIDE = -1002, NOT = -1003, FULL = -1004;

    private static final int MOST_BYTES = 160, MOST_PIECES = 12, MOST_JOINTS = 13, MOST_TICKS = 60;
    private static final int MOST_STRANDS = 16, MOST_STUFF = 3, MOST_BENDS = 500;
    private static final int LEAST_LENGTH = 20, MOST_LENGTH = 200, FIRST_LENGTH = 50;
    private static final int MOST_STEP_TICKS = 30, MOST_TIMES = 9, MOST_DEPTH = 3, MOST_MOVE = 999;
    private static final int[] HEFT = {4, 5, 1, 2};
    private static final int[] STIFF = {24, 36, 2, 8};
    private static final int[] WEARS = {2, 3, 9, 5};

    private static final int AIR = 0, FALL = 1, ROUNDS = 2, PACE = 3, LASTS = 4, LAW_COUNT = 5;
    private static final int[] LAW_LEAST = {0, 0, 1, 10, 1};
    private static final int[] LAW_MOST = {50, 50, 8, 2000, 30000};
    private static final int LEAST_GIVEN = 10, MOST_GIVEN = 200, GIVEN_STEP = 10;

    /** Above every distance and every sum of distances, and above every square of one. */
    private static final int FARTHEST = 0x7FFFFFFF;
    private static final long FARTHEST_SQUARE = 0x7FFFFFFFFFFFFFFFL;
    private static final int MOST_PLACE = 5000, MOST_FILM_PLACE = 9999, MOST_NEAR = 9999;
    private static final int MOST_LATER = 30, MOST_BEHIND = 60, MOST_EVENING = 40;
    private static final int OF_THE_TIP = 0, OF_THE_LOOP = 1, OF_ANOTHER = 2;
    private static final int FLAT = 0, FORWARD = 1, OVERHEAD = 2, CRACKED = 3, TWICE = 4, WRAPPED = 5;

    private static final int MOST_ROW_PIECES = 8, MOST_ROW_STRANDS = 96;
    /** Rows of 8 PIECES from a list of 5: 12 over 4. */
    private static final int MOST_ROWS = 495;
    private static final int[] ROW_STRANDS = {12, 8, 6, 4, 2};

    private static final int MOST_HIDES = 6, MOST_CUTS = 8, MOST_HIDE_LENGTH = 999;
    /** Above every hide's length, so that a hide's number and what is used of it go into one number. */
    private static final int HIDE_STEP = 1000;

    private static final int END = -1, BLANK = 32;
    private static final int FAULT_PLACE = 1, FAULT_NUMBER = 2;
    private static final int FAULT_MORE_STRANDS = 3, FAULT_MORE_PIECES = 4, FAULT_MORE_LENGTHS = 5;
    private static final int FAULT_DEEP = 3, FAULT_LONG = 4, FAULT_BASE = -10;

    private final Setup now = new Setup();
    private final Setup image0 = new Setup();
    private final Setup image1 = new Setup();
    private final Text text = new Text();
    private final PlaitReader plaitReader = new PlaitReader();
    private final WayReader wayReader = new WayReader();
    private final Flight flight = new Flight();
    private final Flight other = new Flight();
    private final Search search = new Search();
    private final Hides hides = new Hides();
    private final Film theFilm = new Film();
    private int given = 100;
    private int earX = 0;
    private int earY = 500;
    private int postX = 300;
    private int postY = 0;
    private int faultAt = NONE;
    /** Whether flight is the THROW of what is so. */
    private boolean flown = false;

    public WhipCrack() {
    }

    // ---- plaits, ways, laws

    public int feed(int n, long bytes) {
        if (n < 1 || n > 8) {
            return OUTSIDE;
        }
        if (text.size + n > MOST_BYTES) {
            return FULL;
        }
        text.append(n, bytes);
        return text.size;
    }

    public int plait() {
        plaitReader.read(text);
        int kind = endReading();
        if (kind != 0) {
            return FAULT_BASE - kind;
        }
        now.plait.copyFrom(plaitReader.plait);
        setChanged();
        return now.plait.pieces;
    }

    public int way() {
        wayReader.read(text);
        int kind = endReading();
        if (kind != 0) {
            return FAULT_BASE - kind;
        }
        wayReader.layInto(now.way);
        setChanged();
        return now.way.ticks;
    }

    public int fault() {
        return faultAt;
    }

    public int piece(int i, int what) {
        Plait p = now.plait;
        if (i < 0 || i >= p.pieces) {
            return UNKNOWN;
        }
        switch (what) {
            case 0: return p.strands[i];
            case 1: return p.stuffs[i];
            case 2: return p.weightOf(i + 1);
            case 3: return p.bendsOf(i + 1);
            case 4: return p.wear[i];
            case 5: return i > 0 && p.strands[i - 1] > p.strands[i] ? 1 : 0;
            default: return OUTSIDE;
        }
    }

    public int law(int what, int v) {
        if (what < 0 || what >= LAW_COUNT || v < LAW_LEAST[what] || v > LAW_MOST[what]) {
            return OUTSIDE;
        }
        int was = now.laws[what];
        now.laws[what] = v;
        setChanged();
        return was;
    }

    public int give(int v) {
        if (!isGiven(v)) {
            return OUTSIDE;
        }
        int was = given;
        given = v;
        setChanged();
        return was;
    }

    public int count(int what) {
        switch (what) {
            case 0: return now.plait.pieces;
            case 1: return now.plait.length;
            case 2: return now.way.ticks;
            case 3: return now.way.steps;
            case 4: return text.size;
            case 5: return now.plait.strandsInAll();
            case 6: return hides.hideCount;
            case 7: return hides.cutCount;
            case 8: return theFilm.size;
            case 9: return given;
            default: return OUTSIDE;
        }
    }

    // ---- a throw (as it would be, with GIVEN; nothing wears)

    public int joint(int k, int tick, int what) {
        if (!isJoint(k) || !isTick(tick)) {
            return UNKNOWN;
        }
        if (what < 0 || what > 1) {
            return OUTSIDE;
        }
        Flight f = theThrow();
        return what == 0 ? f.xOf(k, tick) : f.yOf(k, tick);
    }

    public int speed(int k, int tick) {
        if (!isJoint(k) || !isTick(tick) || tick == 0) {
            return UNKNOWN;
        }
        return theThrow().speedOf(k, tick);
    }

    public long force(int k, int tick) {
        boolean isOne = isJoint(k) && k > 0;
        if (k != NONE && !isOne || !isTick(tick) || tick == 0) {
            return UNKNOWN;
        }
        Flight f = theThrow();
        return k == NONE ? f.forceOfAll(tick) : f.forceOf(k, tick);
    }

    public int loop(int tick) {
        if (!isTick(tick)) {
            return UNKNOWN;
        }
        return theThrow().loopOf(tick);
    }

    public int crack(int i, int what) {
        if (what < 0 || what > 6) {
            return OUTSIDE;
        }
        Flight f = theThrow();
        if (i == NONE) {
            return f.crackCount();
        }
        int found = f.findCrack(i);
        if (found == NONE) {
            return UNKNOWN;
        }
        return tellCrack(f, found % MOST_JOINTS, found / MOST_JOINTS, what);
    }

    public int kind() {
        Flight f = theThrow();
        int turned = f.turnsAbout(postX, postY);
        if (turned >= 4 || turned <= -4) {
            return WRAPPED;
        }
        int first = f.firstCrackTick();
        if (first != NONE) {
            return f.lastCrackTick() - first >= 3 ? TWICE : CRACKED;
        }
        if (f.isOverhead()) {
            return OVERHEAD;
        }
        return f.hasLoop() ? FORWARD : FLAT;
    }

    public int turns() {
        return 100 + theThrow().turnsAbout(postX, postY);
    }

    public int put(int what, int x, int y) {
        if (what < 0 || what > 1 || !isPlace(x, y)) {
            return OUTSIDE;
        }
        if (what == 0) {
            earX = x;
            earY = y;
        } else {
            postX = x;
            postY = y;
        }
        return 1;
    }

    public int near() {
        return theThrow().leastCrackFar(earX, earY);
    }

    // ---- the least, the loudest

    public int leastHand() {
        for (int hand = LEAST_GIVEN; hand <= MOST_GIVEN; hand += GIVEN_STEP) {
            other.fly(now.plait, now.way, now.laws, hand);
            if (other.firstCrackTick() != NONE) {
                return hand;
            }
        }
        return NONE;
    }

    public int loudest(int s, int i) {
        if (s < 1 || s > MOST_ROW_STRANDS) {
            return OUTSIDE;
        }
        if (now.plait.pieces > MOST_ROW_PIECES) {
            return NOT;
        }
        if (search.most != s) {
            search.run(now, other, given, s);
        }
        if (i == NONE) {
            return search.bestSpeed;
        }
        if (i < 0 || i >= now.plait.pieces || search.bestSpeed == NONE) {
            return NONE;
        }
        return search.best[i];
    }

    // ---- aims, two

    public int aim(int x, int y, int a, int b, int what) {
        if (!isPlace(x, y) || a < 0 || a > b || b > now.way.ticks || what < 0 || what > 1) {
            return OUTSIDE;
        }
        Flight f = theThrow();
        int tick = f.nearestTick(x, y, a, b);
        return what == 0 ? f.farOf(f.tip, tick, x, y) : tick;
    }

    public int alone(int x, int y) {
        if (!isPlace(x, y)) {
            return OUTSIDE;
        }
        return theThrow().leastFar(x, y);
    }

    public int bestAim(int x, int y, int r) {
        if (!isPlace(x, y) || r < 0 || r > MOST_NEAR) {
            return OUTSIDE;
        }
        int best = NONE;
        int least = FARTHEST;
        for (int hand = LEAST_GIVEN; hand <= MOST_GIVEN; hand += GIVEN_STEP) {
            other.fly(now.plait, now.way, now.laws, hand);
            int far = other.farOf(other.tip, other.nearestTick(x, y, 1, other.ticks), x, y);
            if (far < least && other.leastFar(earX, earY) >= r) {
                least = far;
                best = hand;
            }
        }
        return best;
    }

    public int close(int d, int given, int o) {
        if (!isPlace(d, 0) || !isGiven(given) || o < 0 || o > MOST_LATER) {
            return OUTSIDE;
        }
        Flight f = theThrow();
        other.fly(now.plait, now.way, now.laws, given);
        return f.leastFarOfTwo(other, d, o);
    }

    public int rhythm(int d, int given, int h, int c) {
        if (!isPlace(d, 0) || !isGiven(given) || h < -MOST_BEHIND || h > MOST_BEHIND) {
            return OUTSIDE;
        }
        if (c < 0 || c > MOST_NEAR) {
            return OUTSIDE;
        }
        Flight f = theThrow();
        other.fly(now.plait, now.way, now.laws, given);
        int first = f.firstCrackTick();
        int second = other.firstCrackTick();
        if (first == NONE || second == NONE) {
            return NONE;
        }
        int o = first + h - second;
        if (o < 0 || o > MOST_LATER) {
            return NONE;
        }
        return f.leastFarOfTwo(other, d, o) >= c ? o : NONE;
    }

    // ---- wear

    public int crackOn() {
        return throwReally();
    }

    public int evening(int n) {
        if (n < 1 || n > MOST_EVENING) {
            return OUTSIDE;
        }
        for (int done = 1; done <= n; done++) {
            if (throwReally() > 0) {
                return done;
            }
        }
        return n;
    }

    // ---- hides

    public int lay(int what, int length) {
        if (what < 0 || what > 1 || length < 1 || length > MOST_HIDE_LENGTH) {
            return OUTSIDE;
        }
        return what == 0 ? hides.addHide(length) : hides.addCut(length);
    }

    public int clear() {
        int were = hides.hideCount + hides.cutCount;
        hides.hideCount = 0;
        hides.cutCount = 0;
        return were;
    }

    public int cut() {
        return hides.fewest();
    }

    // ---- films, images

    public int film(int x, int y) {
        if (!isWithin(x, MOST_FILM_PLACE) || !isWithin(y, MOST_FILM_PLACE)) {
            return OUTSIDE;
        }
        return theFilm.append(x, y);
    }

    public int blank() {
        int had = theFilm.size;
        theFilm.size = 0;
        return had;
    }

    public int told(int what) {
        if (what < 0 || what > 1) {
            return OUTSIDE;
        }
        if (theFilm.size == 0) {
            return NOT;
        }
        int best = NONE;
        int least = FARTHEST;
        for (int hand = LEAST_GIVEN; hand <= MOST_GIVEN; hand += GIVEN_STEP) {
            other.fly(now.plait, now.way, now.laws, hand);
            int off = theFilm.distance(other);
            if (off < least) {
                least = off;
                best = hand;
            }
        }
        return what == 0 ? best : least;
    }

    public int keep(int i) {
        if (i < 0 || i > 1) {
            return UNKNOWN;
        }
        Setup image = i == 0 ? image0 : image1;
        image.copyFrom(now);
        image.isKept = true;
        return 1;
    }

    public int goBack(int i) {
        if (i < 0 || i > 1) {
            return UNKNOWN;
        }
        Setup image = i == 0 ? image0 : image1;
        if (!image.isKept) {
            return NOT;
        }
        now.copyFrom(image);
        setChanged();
        return 1;
    }

    // ---- what the calls share

    /** The text is empty behind a reading, with a FAULT too: answers the FAULT's number, 0 for none. */
    private int endReading() {
        faultAt = text.faultAt;
        text.size = 0;
        return text.faultKind;
    }

    private void setChanged() {
        flown = false;
        search.most = NONE;
    }

    private Flight theThrow() {
        if (!flown) {
            flight.fly(now.plait, now.way, now.laws, given);
            flown = true;
        }
        return flight;
    }

    private boolean isJoint(int k) {
        return k >= 0 && k <= now.plait.pieces;
    }

    private boolean isTick(int tick) {
        return tick >= 0 && tick <= now.way.ticks;
    }

    private static boolean isWithin(int v, int most) {
        return v >= -most && v <= most;
    }

    private static boolean isPlace(int x, int y) {
        return isWithin(x, MOST_PLACE) && isWithin(y, MOST_PLACE);
    }

    private static boolean isGiven(int v) {
        return v >= LEAST_GIVEN && v <= MOST_GIVEN;
    }

    private int tellCrack(Flight f, int k, int tick, int what) {
        int far = f.farOf(k, tick, earX, earY);
        switch (what) {
            case 0: return tick;
            case 1: return k;
            case 2: return f.crackOf(k, tick);
            case 3: return tick + far / Math.max(1, f.pace);
            case 4: return f.loudOf(k, tick, far);
            case 5: return far;
            default: return f.speedOf(k, tick);
        }
    }

    private int throwReally() {
        Flight f = theThrow();
        Plait p = now.plait;
        for (int i = 0; i < p.pieces; i++) {
            p.wear[i] += f.pathOf(i + 1) * WEARS[p.stuffs[i]] / 100;
        }
        int gone = p.loseWorn(now.laws[LASTS]);
        if (gone > 0) {
            setChanged();
        }
        return gone;
    }

    /** ROOT: Newton's steps come down to it from a power of two that is not below it. */
    private static long root(long n) {
        if (n <= 0) {
            return 0;
        }
        long r = 1L << (65 - Long.numberOfLeadingZeros(n)) / 2;
        for (int i = 0; i < 64; i++) {
            long next = (r + n / r) / 2;
            if (next >= r) {
                return r;
            }
            r = next;
        }
        return r;
    }

    /** What an IMAGE keeps. */
    private static final class Setup {
        final Plait plait = new Plait();
        final Way way = new Way();
        final int[] laws = {2, 3, 3, 150, 5000};
        boolean isKept = false;

        void copyFrom(Setup from) {
            plait.copyFrom(from.plait);
            way.copyFrom(from.way);
            System.arraycopy(from.laws, 0, laws, 0, LAW_COUNT);
        }
    }

    private static final class Plait {
        int pieces = 4;
        int length = FIRST_LENGTH;
        final int[] strands = {8, 6, 4, 2, 0, 0, 0, 0, 0, 0, 0, 0};
        final int[] stuffs = new int[MOST_PIECES];
        final int[] wear = new int[MOST_PIECES];

        void copyFrom(Plait from) {
            pieces = from.pieces;
            length = from.length;
            System.arraycopy(from.strands, 0, strands, 0, MOST_PIECES);
            System.arraycopy(from.stuffs, 0, stuffs, 0, MOST_PIECES);
            System.arraycopy(from.wear, 0, wear, 0, MOST_PIECES);
        }

        void addPieces(int many, int strandsOfEach, int stuff) {
            for (int i = 0; i < many && pieces < MOST_PIECES; i++) {
                strands[pieces] = strandsOfEach;
                stuffs[pieces] = stuff;
                wear[pieces] = 0;
                pieces++;
            }
        }

        int weightOf(int k) {
            return strands[k - 1] * HEFT[stuffs[k - 1]];
        }

        int bendsOf(int k) {
            return Math.min(MOST_BENDS, strands[k - 1] * STIFF[stuffs[k - 1]]);
        }

        int strandsInAll() {
            int sum = 0;
            for (int i = 0; i < pieces; i++) {
                sum += strands[i];
            }
            return sum;
        }

        /** What is behind a PIECE that is GONE goes with it; PIECE 0 is never looked at. */
        int loseWorn(int lasts) {
            for (int i = 1; i < pieces; i++) {
                if (wear[i] >= lasts) {
                    int gone = pieces - i;
                    pieces = i;
                    return gone;
                }
            }
            return 0;
        }
    }

    /** Where THE HAND is behind each TICK, as told (GIVEN 100). */
    private static final class Way {
        int ticks = 1;
        int steps = 1;
        final int[] xs = new int[MOST_TICKS + 1];
        final int[] ys = new int[MOST_TICKS + 1];

        void copyFrom(Way from) {
            ticks = from.ticks;
            steps = from.steps;
            System.arraycopy(from.xs, 0, xs, 0, MOST_TICKS + 1);
            System.arraycopy(from.ys, 0, ys, 0, MOST_TICKS + 1);
        }

        void addStep(int x, int y, int many) {
            int from = ticks;
            for (int i = 1; i <= many && ticks < MOST_TICKS; i++) {
                ticks++;
                xs[ticks] = xs[from] + x * i / many;
                ys[ticks] = ys[from] + y * i / many;
            }
            steps++;
        }
    }

    /** THE TEXT, and its reading from the left: the first FAULT that is found is the one that counts. */
    private static final class Text {
        final int[] bytes = new int[MOST_BYTES];
        int size = 0;
        int at = 0;
        int numberAt = 0;
        int faultKind = 0;
        int faultAt = NONE;

        void append(int n, long from) {
            for (int i = n - 1; i >= 0 && size < MOST_BYTES; i--) {
                bytes[size] = (int) (from >>> 8 * i & 255);
                size++;
            }
        }

        void begin() {
            at = 0;
            faultKind = 0;
            faultAt = NONE;
        }

        void blame(int kind, int where) {
            if (faultKind == 0) {
                faultKind = kind;
                faultAt = where;
            }
        }

        boolean isFine() {
            return faultKind == 0;
        }

        /** The next byte that is no blank, or END; the reading is at it then. */
        int next() {
            while (at < size && bytes[at] == BLANK) {
                at++;
            }
            return at < size ? bytes[at] : END;
        }

        boolean takesSign(char sign) {
            if (next() != sign) {
                return false;
            }
            at++;
            return true;
        }

        void needSign(char sign) {
            if (isFine() && !takesSign(sign)) {
                blame(FAULT_PLACE, at);
            }
        }

        /** Whether the whole word that comes next is this one. */
        boolean isWord(String word) {
            next();
            int end = at + word.length();
            if (end > size || end < size && isLetter(bytes[end])) {
                return false;
            }
            for (int i = 0; i < word.length(); i++) {
                if (bytes[at + i] != word.charAt(i)) {
                    return false;
                }
            }
            return true;
        }

        boolean takesWord(String word) {
            if (!isWord(word)) {
                return false;
            }
            at += word.length();
            return true;
        }

        void needWord(String word) {
            if (!isFine()) {
                return;
            }
            if (isWord(word)) {
                at += word.length();
            } else {
                blame(FAULT_PLACE, at);
            }
        }

        int needNumber(int least, int most) {
            if (!isFine()) {
                return 0;
            }
            next();
            numberAt = at;
            return readFigures(least, most);
        }

        /** A NUMBER that may have a '-' at once ahead of it. */
        int needMove() {
            if (!isFine()) {
                return 0;
            }
            boolean isBelow = next() == '-';
            numberAt = at;
            if (isBelow) {
                at++;
            }
            int v = readFigures(0, MOST_MOVE);
            return isBelow ? -v : v;
        }

        private int readFigures(int least, int most) {
            int from = at;
            int v = 0;
            while (at < size && isFigure(bytes[at])) {
                if (at - from < 3) {
                    v = v * 10 + bytes[at] - '0';
                }
                at++;
            }
            if (at == from) {
                blame(FAULT_PLACE, at);
            } else if (at - from > 3 || v < least || v > most) {
                blame(FAULT_NUMBER, numberAt);
            }
            return v;
        }

        private static boolean isLetter(int b) {
            return b >= 'a' && b <= 'z';
        }

        private static boolean isFigure(int b) {
            return b >= '0' && b <= '9';
        }
    }

    private static final class PlaitReader {
        final Plait plait = new Plait();
        private boolean hasLength = false;

        void read(Text text) {
            text.begin();
            plait.pieces = 0;
            plait.length = FIRST_LENGTH;
            hasLength = false;
            for (int i = 0; i < MOST_BYTES && text.isFine() && text.next() != END; i++) {
                readClause(text);
            }
            if (plait.pieces == 0) {
                text.blame(FAULT_PLACE, text.size);
            }
        }

        private void readClause(Text text) {
            if (text.takesWord("piece")) {
                readPieces(text);
            } else if (text.isWord("length")) {
                readLength(text);
            } else {
                text.blame(FAULT_PLACE, text.at);
            }
        }

        private void readLength(Text text) {
            if (hasLength) {
                text.blame(FAULT_MORE_LENGTHS, text.at);
            }
            hasLength = true;
            text.needWord("length");
            plait.length = text.needNumber(LEAST_LENGTH, MOST_LENGTH);
            text.needSign(';');
        }

        private void readPieces(Text text) {
            int many = text.needNumber(1, MOST_PIECES);
            if (plait.pieces + many > MOST_PIECES) {
                text.blame(FAULT_MORE_PIECES, text.numberAt);
            }
            text.needWord("strands");
            int strands = text.needNumber(1, MOST_STRANDS);
            if (plait.pieces > 0 && strands > plait.strands[plait.pieces - 1]) {
                text.blame(FAULT_MORE_STRANDS, text.numberAt);
            }
            int stuff = 0;
            if (text.isFine() && text.takesWord("stuff")) {
                stuff = text.needNumber(0, MOST_STUFF);
            }
            text.needSign(';');
            if (text.isFine()) {
                plait.addPieces(many, strands, stuff);
            }
        }
    }

    /** Writes a WAY's clauses out one behind the other, those within 'times' as often as they are done. */
    private static final class WayReader {
        /** Each step has a TICK at least, so a WAY that may stand has no more steps than these rows. */
        private final int[] xs = new int[MOST_TICKS];
        private final int[] ys = new int[MOST_TICKS];
        private final int[] ts = new int[MOST_TICKS];
        private int steps = 0;
        private int ticks = 0;
        private final int[] times = new int[MOST_DEPTH];
        private final int[] stepsAhead = new int[MOST_DEPTH];
        private final int[] ticksAhead = new int[MOST_DEPTH];
        private int depth = 0;
        /** Whether the innermost way that is open has a clause. */
        private boolean hasClause = false;

        void read(Text text) {
            text.begin();
            steps = 0;
            ticks = 0;
            depth = 0;
            hasClause = false;
            for (int i = 0; i < MOST_BYTES && text.isFine() && text.next() != END; i++) {
                readPart(text);
            }
            if (depth > 0 || !hasClause) {
                text.blame(FAULT_PLACE, text.size);
            }
            if (ticks > MOST_TICKS) {
                text.blame(FAULT_LONG, text.size);
            }
        }

        void layInto(Way way) {
            way.ticks = 0;
            way.steps = 0;
            for (int i = 0; i < steps; i++) {
                way.addStep(xs[i], ys[i], ts[i]);
            }
        }

        private void readPart(Text text) {
            if (text.takesWord("go")) {
                readGo(text);
            } else if (text.takesWord("hold")) {
                addStep(0, 0, text.needNumber(1, MOST_STEP_TICKS));
                text.needSign(';');
            } else if (text.isWord("times")) {
                openTimes(text);
            } else if (depth > 0 && hasClause && text.takesSign(')')) {
                closeTimes();
            } else {
                text.blame(FAULT_PLACE, text.at);
            }
        }

        private void readGo(Text text) {
            int x = text.needMove();
            int y = text.needMove();
            text.needWord("for");
            addStep(x, y, text.needNumber(1, MOST_STEP_TICKS));
            text.needSign(';');
        }

        private void openTimes(Text text) {
            if (depth >= MOST_DEPTH) {
                text.blame(FAULT_DEEP, text.at);
                return;
            }
            text.needWord("times");
            times[depth] = text.needNumber(2, MOST_TIMES);
            text.needSign('(');
            stepsAhead[depth] = steps;
            ticksAhead[depth] = ticks;
            depth++;
            hasClause = false;
        }

        private void closeTimes() {
            depth--;
            int from = stepsAhead[depth];
            int many = steps - from;
            int more = times[depth] - 1;
            ticks += (ticks - ticksAhead[depth]) * more;
            for (int i = 0; i < many * more && steps < MOST_TICKS; i++) {
                copyStep(from + i);
            }
            hasClause = true;
        }

        private void copyStep(int from) {
            xs[steps] = xs[from];
            ys[steps] = ys[from];
            ts[steps] = ts[from];
            steps++;
        }

        private void addStep(int x, int y, int many) {
            ticks += many;
            hasClause = true;
            if (steps < MOST_TICKS) {
                xs[steps] = x;
                ys[steps] = y;
                ts[steps] = many;
                steps++;
            }
        }
    }

    /** A THROW: the places of all JOINTS behind all TICKS. */
    private static final class Flight {
        int tip = 0;
        int ticks = 0;
        int pace = 0;
        private int length = 0;
        private final int[] xs = new int[(MOST_TICKS + 1) * MOST_JOINTS];
        private final int[] ys = new int[(MOST_TICKS + 1) * MOST_JOINTS];
        private final int[] weights = new int[MOST_JOINTS];
        private final int[] bends = new int[MOST_JOINTS];

        void fly(Plait plait, Way way, int[] laws, int given) {
            tip = plait.pieces;
            ticks = way.ticks;
            pace = laws[PACE];
            length = plait.length;
            for (int k = 1; k <= tip; k++) {
                weights[k] = plait.weightOf(k);
                bends[k] = plait.bendsOf(k);
            }
            rest();
            for (int tick = 1; tick <= ticks; tick++) {
                int row = tick * MOST_JOINTS;
                xs[row] = way.xs[tick] * given / 100;
                ys[row] = way.ys[tick] * given / 100;
                goOn(row, laws[AIR], laws[FALL]);
                bend(row);
                boolean isStretched = true;
                for (int round = 0; round < laws[ROUNDS] && isStretched; round++) {
                    isStretched = pull(row);
                }
                shorten(row);
            }
        }

        private void rest() {
            for (int k = 0; k <= tip; k++) {
                xs[k] = k * length;
                ys[k] = 0;
            }
        }

        private void goOn(int row, int air, int fall) {
            int was = row - MOST_JOINTS;
            // In TICK 1 nothing has moved yet: the row is compared with itself then.
            int before = Math.max(0, was - MOST_JOINTS);
            for (int k = 1; k <= tip; k++) {
                long u = xs[was + k] - xs[before + k];
                long v = ys[was + k] - ys[before + k];
                long whole = 1000L * weights[k];
                long left = whole - air * root(u * u + v * v);
                boolean goes = left > 0 && whole > 0;
                xs[row + k] = xs[was + k] + (goes ? (int) (u * left / whole) : 0);
                ys[row + k] = ys[was + k] + (goes ? (int) (v * left / whole) : 0) - fall;
            }
        }

        private void bend(int row) {
            for (int at = row + 2; at <= row + tip; at++) {
                long a = 2L * xs[at - 1] - xs[at - 2] - xs[at];
                long b = 2L * ys[at - 1] - ys[at - 2] - ys[at];
                xs[at] += (int) (a * bends[at - row] / 1000);
                ys[at] += (int) (b * bends[at - row] / 1000);
            }
        }

        /** One round; false: no PIECE was stretched, so another round would find none either. */
        private boolean pull(int row) {
            boolean isStretched = false;
            for (int k = 1; k <= tip; k++) {
                int at = row + k;
                long a = xs[at] - xs[at - 1];
                long b = ys[at] - ys[at - 1];
                long d = lengthIfStretched(a, b);
                if (d > 0 && k == 1) {
                    xs[at] -= (int) (a * (d - length) / d);
                    ys[at] -= (int) (b * (d - length) / d);
                } else if (d > 0) {
                    pullBoth(at, k, d, a, b);
                }
                isStretched = isStretched || d > 0;
            }
            return isStretched;
        }

        private void pullBoth(int at, int k, long d, long a, long b) {
            long e = d - length;
            long w = weights[k - 1];
            long x = weights[k];
            long whole = d * (w + x);
            if (whole <= 0) {
                return;
            }
            xs[at] -= (int) (a * e * w / whole);
            ys[at] -= (int) (b * e * w / whole);
            xs[at - 1] += (int) (a * e * x / whole);
            ys[at - 1] += (int) (b * e * x / whole);
        }

        private void shorten(int row) {
            for (int at = row + 1; at <= row + tip; at++) {
                long a = xs[at] - xs[at - 1];
                long b = ys[at] - ys[at - 1];
                long d = lengthIfStretched(a, b);
                if (d > 0) {
                    xs[at] = xs[at - 1] + (int) (a * length / d);
                    ys[at] = ys[at - 1] + (int) (b * length / d);
                }
            }
        }

        /** The ROOT is dear and most PIECES are slack: it is drawn only if it is more than LENGTH, else 0. */
        private long lengthIfStretched(long a, long b) {
            long square = a * a + b * b;
            long stretched = length + 1L;
            return square < stretched * stretched ? 0 : root(square);
        }

        int xOf(int k, int tick) {
            return xs[tick * MOST_JOINTS + k];
        }

        int yOf(int k, int tick) {
            return ys[tick * MOST_JOINTS + k];
        }

        /** The squares of what a JOINT moved in a TICK (1 and on), together. */
        private long moved(int k, int tick) {
            int at = tick * MOST_JOINTS + k;
            return squares(xs[at] - xs[at - MOST_JOINTS], ys[at] - ys[at - MOST_JOINTS]);
        }

        private static long squares(long a, long b) {
            return a * a + b * b;
        }

        int speedOf(int k, int tick) {
            return (int) root(moved(k, tick));
        }

        long forceOf(int k, int tick) {
            return weights[k] * moved(k, tick);
        }

        long forceOfAll(int tick) {
            long sum = 0;
            for (int k = 1; k <= tip; k++) {
                sum += forceOf(k, tick);
            }
            return sum;
        }

        /** The way that a JOINT went in all TICKS, by its SPEEDS. */
        int pathOf(int k) {
            int sum = 0;
            for (int tick = 1; tick <= ticks; tick++) {
                sum += speedOf(k, tick);
            }
            return sum;
        }

        int greatestSpeed() {
            long most = 0;
            for (int tick = 1; tick <= ticks; tick++) {
                for (int k = 1; k <= tip; k++) {
                    most = Math.max(most, moved(k, tick));
                }
            }
            return (int) root(most);
        }

        int loopOf(int tick) {
            int found = NONE;
            long least = 0;
            for (int k = 1; k < tip; k++) {
                int at = tick * MOST_JOINTS + k;
                long a = (long) (xs[at] - xs[at - 1]) * (xs[at + 1] - xs[at]);
                long b = (long) (ys[at] - ys[at - 1]) * (ys[at + 1] - ys[at]);
                if (a + b < least) {
                    least = a + b;
                    found = k;
                }
            }
            return found;
        }

        boolean hasLoop() {
            for (int tick = 1; tick <= ticks; tick++) {
                if (loopOf(tick) != NONE) {
                    return true;
                }
            }
            return false;
        }

        boolean isOverhead() {
            for (int tick = 1; tick <= ticks; tick++) {
                for (int k = 1; k <= tip; k++) {
                    if (yOf(k, tick) - yOf(0, tick) > 2 * length) {
                        return true;
                    }
                }
            }
            return false;
        }

        /** SPEED is PACE or more just if its square is, so no ROOT is needed. */
        private boolean isFast(int k, int tick) {
            return tick > 0 && moved(k, tick) >= (long) pace * pace;
        }

        private boolean isCrack(int k, int tick) {
            return isFast(k, tick) && !isFast(k, tick - 1);
        }

        int crackCount() {
            int many = 0;
            for (int tick = 1; tick <= ticks; tick++) {
                for (int k = 1; k <= tip; k++) {
                    many += isCrack(k, tick) ? 1 : 0;
                }
            }
            return many;
        }

        /** CRACK i, told as its TICK times MOST_JOINTS and its JOINT; NONE. */
        int findCrack(int i) {
            int ahead = 0;
            for (int tick = 1; tick <= ticks; tick++) {
                for (int k = 1; k <= tip; k++) {
                    if (isCrack(k, tick)) {
                        if (ahead == i) {
                            return tick * MOST_JOINTS + k;
                        }
                        ahead++;
                    }
                }
            }
            return NONE;
        }

        private boolean hasCrack(int tick) {
            for (int k = 1; k <= tip; k++) {
                if (isCrack(k, tick)) {
                    return true;
                }
            }
            return false;
        }

        int firstCrackTick() {
            for (int tick = 1; tick <= ticks; tick++) {
                if (hasCrack(tick)) {
                    return tick;
                }
            }
            return NONE;
        }

        int lastCrackTick() {
            for (int tick = ticks; tick >= 1; tick--) {
                if (hasCrack(tick)) {
                    return tick;
                }
            }
            return NONE;
        }

        int crackOf(int k, int tick) {
            int loopAt = loopOf(tick);
            if (loopAt != NONE && (k == loopAt || k - 1 == loopAt)) {
                return OF_THE_LOOP;
            }
            return k == tip ? OF_THE_TIP : OF_ANOTHER;
        }

        int loudOf(int k, int tick, int far) {
            return (int) (1000L * speedOf(k, tick) * weights[k] / (Math.max(0, far) + 1L));
        }

        int farOf(int k, int tick, int x, int y) {
            return (int) root(squares(xOf(k, tick) - x, yOf(k, tick) - y));
        }

        int leastCrackFar(int x, int y) {
            int least = NONE;
            for (int tick = 1; tick <= ticks; tick++) {
                for (int k = 1; k <= tip; k++) {
                    if (isCrack(k, tick)) {
                        int far = farOf(k, tick, x, y);
                        least = least == NONE ? far : Math.min(least, far);
                    }
                }
            }
            return least;
        }

        int leastFar(int x, int y) {
            long least = FARTHEST_SQUARE;
            for (int tick = 0; tick <= ticks; tick++) {
                for (int k = 0; k <= tip; k++) {
                    least = Math.min(least, squares(xOf(k, tick) - x, yOf(k, tick) - y));
                }
            }
            return (int) root(least);
        }

        /** The first TICK from a to b in which THE TIP is nearest, by ROOTS: those cut alike are like ones. */
        int nearestTick(int x, int y, int a, int b) {
            int found = a;
            int least = FARTHEST;
            for (int tick = a; tick <= b; tick++) {
                int far = farOf(tip, tick, x, y);
                if (far < least) {
                    least = far;
                    found = tick;
                }
            }
            return found;
        }

        /** Of this whip and a second one that is turned about and begins later. */
        int leastFarOfTwo(Flight second, int d, int later) {
            long least = FARTHEST_SQUARE;
            for (int tick = 0; tick <= ticks + later; tick++) {
                int mine = Math.min(tick, ticks) * MOST_JOINTS;
                int its = Math.min(Math.max(0, tick - later), second.ticks) * MOST_JOINTS;
                for (int k = 0; k <= tip; k++) {
                    for (int j = 0; j <= second.tip; j++) {
                        long a = xs[mine + k] - (d - second.xs[its + j]);
                        long b = ys[mine + k] - second.ys[its + j];
                        least = Math.min(least, a * a + b * b);
                    }
                }
            }
            return (int) root(least);
        }

        int turnsAbout(int x, int y) {
            int sum = 0;
            int quarter = 0;
            for (int tick = 0; tick <= ticks; tick++) {
                int next = quarterOf(xOf(tip, tick) - x, yOf(tip, tick) - y, quarter);
                int ahead = (next - quarter + 4) % 4;
                if (tick > 0 && ahead == 1) {
                    sum++;
                } else if (tick > 0 && ahead == 3) {
                    sum--;
                }
                quarter = next;
            }
            return sum;
        }

        private static int quarterOf(int a, int b, int before) {
            if (a > 0 && b >= 0) {
                return 0;
            }
            if (a <= 0 && b > 0) {
                return 1;
            }
            if (a < 0 && b <= 0) {
                return 2;
            }
            return a >= 0 && b < 0 ? 3 : before;
        }
    }

    /** The LOUDEST PLAIT: all rows that may stand are thrown, those with more STRANDS ahead first. */
    private static final class Search {
        /** For how many STRANDS the answer here is; NONE: it is of something that is so no more. */
        int most = NONE;
        int bestSpeed = NONE;
        final int[] best = new int[MOST_ROW_PIECES];
        private final int[] row = new int[MOST_ROW_PIECES];
        private final Plait plait = new Plait();

        void run(Setup now, Flight flight, int given, int strandsAtMost) {
            most = strandsAtMost;
            bestSpeed = NONE;
            plait.copyFrom(now.plait);
            if (plait.pieces > MOST_ROW_PIECES) {
                return;
            }
            for (int i = 0; i < MOST_ROW_PIECES; i++) {
                row[i] = 0;
            }
            boolean hasRow = true;
            for (int i = 0; i < MOST_ROWS && hasRow; i++) {
                layRow();
                if (plait.strandsInAll() <= strandsAtMost) {
                    flight.fly(plait, now.way, now.laws, given);
                    compare(flight.greatestSpeed());
                }
                hasRow = nextRow();
            }
        }

        private void layRow() {
            for (int i = 0; i < plait.pieces; i++) {
                plait.strands[i] = ROW_STRANDS[row[i]];
            }
        }

        private void compare(int speedOfRow) {
            if (speedOfRow > bestSpeed) {
                bestSpeed = speedOfRow;
                System.arraycopy(plait.strands, 0, best, 0, plait.pieces);
            }
        }

        /** The last PIECE that can have fewer STRANDS gets them, and all behind it as many as it has. */
        private boolean nextRow() {
            for (int i = plait.pieces - 1; i >= 0; i--) {
                if (row[i] < ROW_STRANDS.length - 1) {
                    int fewer = row[i] + 1;
                    for (int j = i; j < plait.pieces; j++) {
                        row[j] = fewer;
                    }
                    return true;
                }
            }
            return false;
        }
    }

    private static final class Hides {
        int hideCount = 0;
        int cutCount = 0;
        private final int[] hides = new int[MOST_HIDES];
        private final int[] cuts = new int[MOST_CUTS];
        /** For each SET of STRANDS: the least hide, and of it the least length, that its cutting reaches. */
        private final int[] reached = new int[1 << MOST_CUTS];

        int addHide(int length) {
            if (hideCount >= MOST_HIDES) {
                return FULL;
            }
            hides[hideCount] = length;
            hideCount++;
            return hideCount;
        }

        int addCut(int length) {
            if (cutCount >= MOST_CUTS) {
                return FULL;
            }
            cuts[cutCount] = length;
            cutCount++;
            return cutCount;
        }

        int fewest() {
            int best = NONE;
            for (int set = 0; set < 1 << hideCount; set++) {
                boolean isFewer = best == NONE || Integer.bitCount(set) < Integer.bitCount(best);
                if (isFewer && isEnough(set)) {
                    best = set;
                }
            }
            return best;
        }

        /** Hides are used up in their order: what reaches less far can go on in all ways that more can. */
        private boolean isEnough(int set) {
            int all = (1 << cutCount) - 1;
            reached[0] = 0;
            for (int done = 1; done <= all; done++) {
                reached[done] = NONE;
                for (int i = 0; i < cutCount; i++) {
                    int ahead = done & ~(1 << i);
                    if (ahead != done && reached[ahead] != NONE) {
                        keepLeast(done, afterCut(set, reached[ahead], cuts[i]));
                    }
                }
            }
            return reached[all] != NONE;
        }

        private void keepLeast(int done, int reach) {
            if (reach != NONE && (reached[done] == NONE || reach < reached[done])) {
                reached[done] = reach;
            }
        }

        /** How far the hides are used behind one more STRAND; NONE: no hide of the SET has room for it. */
        private int afterCut(int set, int reach, int length) {
            int used = reach % HIDE_STEP;
            for (int hide = reach / HIDE_STEP; hide < hideCount; hide++) {
                if ((set >> hide & 1) == 1 && used + length <= hides[hide]) {
                    return hide * HIDE_STEP + used + length;
                }
                used = 0;
            }
            return NONE;
        }
    }

    private static final class Film {
        int size = 0;
        private final int[] xs = new int[MOST_TICKS];
        private final int[] ys = new int[MOST_TICKS];

        int append(int x, int y) {
            if (size >= MOST_TICKS) {
                return FULL;
            }
            xs[size] = x;
            ys[size] = y;
            size++;
            return size;
        }

        int distance(Flight flight) {
            int sum = 0;
            int last = Math.min(size, flight.ticks);
            for (int tick = 1; tick <= last; tick++) {
                sum += Math.abs(flight.xOf(flight.tip, tick) - xs[tick - 1]);
                sum += Math.abs(flight.yOf(flight.tip, tick) - ys[tick - 1]);
            }
            return sum;
        }
    }
}
