/** Blowers of large bubbles, their bucket, and the squares they stand on. */
public final class LargeBubble {
    public static final int NONE = -1, BAD = -2, STATE = -3, FULL = -4;
    public static final long NO = Long.MIN_VALUE;

    private static final int NOT_ANY = -5;
    private static final int NO_ONE_TO_CALM = -1000001;
    private static final int FAULT = -10;
    private static final int NOTHING = -11, CAST = -12, PLACE = -13, SIZE = -14;

    private static final int BLOWERS = 5, SQUARES = 6, SEEN = 6, BOOK = 12;
    private static final int TAPES = 6, TAPE_ITEMS = 60, TRACE = 20;
    private static final int V = 9, CORD = 9, AIM = 60, ROW = 4, DIGIT = 9, DIPS_AT_MOST = 99;
    private static final int PAUSE = 60, MINUTE = 9999, MINUTE_OF_A_GO = 9900;
    private static final int COINS = 999999, BRINGS = 99999;
    private static final int GOES = 20, MINUTES_AHEAD = 12, GUSTS = 10;
    private static final int SEEN_MINUTES = 30, SEEN_SIZE = 99;

    private static final int SOAP = 0, SUGAR = 1, GUAR = 2, DIPS = 3;
    private static final int BYTES = 0, SHORTS = 1, INTS = 2, LONGS = 3, BOOLEANS = 4;
    private static final int BY_AIM = 0, BY_CORD = 1, BY_MIX = 2, BY_PAUSE = 3;
    private static final int DAY_TORN = 10, DAY_MINUTE = 11;

    private final State now = new State();
    private State image = null;
    private final Course course = new Course();

    private final Text text = new Text();
    private final Square[] squares = new Square[SQUARES];
    private int squareCount = 0;
    private Square spare = null;

    private final int[] dayBrings = new int[BLOWERS];
    private int dayTorn = 0;
    private int dayMinute = 0;

    // Cell 0 counts the bodies that ran, the others keep the first of them.
    private final int[] bodies = new int[1 + TRACE];

    // The sort of a tape that holds nothing is -1.
    private final int[] tapeSorts = {-1, -1, -1, -1, -1, -1};
    private final int[] tapeLengths = new int[TAPES];
    private final long[][] tapeItems = new long[TAPES][TAPE_ITEMS];

    public LargeBubble() {
    }

    // ---- blowers, the bucket, squares

    public int blower(int kind, int v, int cord, int aim) {
        if (kind < 0 || kind > 6) return NONE;
        if (!within(v, 0, V) || !within(cord, 1, CORD) || !within(aim, 1, AIM)) return BAD;
        if (now.blowerCount >= BLOWERS) return FULL;
        int number = now.blowerCount;
        now.blowers[number] = made(kind, number, v, cord, aim);
        now.blowerCount++;
        return number;
    }

    public int of(int blower, int what) {
        Blower one = find(blower);
        if (one == null) return NONE;
        switch (what) {
            case 0: return one.kind;
            case 1: return one.v;
            case 2: return one.cord;
            case 3: return one.aim;
            case 4: return one.coins;
            default: return NONE;
        }
    }

    public int set(int blower, int what, int n) {
        Blower one = find(blower);
        if (one == null || !within(what, 0, 1)) return NONE;
        if (!within(n, 1, what == 0 ? CORD : AIM)) return BAD;
        int was = what == 0 ? one.cord : one.aim;
        if (what == 0) one.cord = n;
        else one.aim = n;
        return was;
    }

    public int mix(int what, int n) {
        if (!within(what, SOAP, DIPS)) return NONE;
        if (!within(n, 0, what == DIPS ? DIPS_AT_MOST : DIGIT)) return BAD;
        int was = now.bucket[what];
        now.bucket[what] = n;
        return was;
    }

    public int row(int blower, int part, int n) {
        Blower one = find(blower);
        if (one == null || !within(part, 0, ROW - 1)) return NONE;
        if (!within(n, 0, DIGIT)) return BAD;
        if (!(one instanceof Told)) return STATE;
        int[] row = ((Told) one).row;
        int was = row[part];
        row[part] = n;
        return was;
    }

    public int feed(int sign) {
        if (!within(sign, 0, 127)) return BAD;
        if (text.isFull()) return FULL;
        text.add(sign);
        return text.length;
    }

    public int square() {
        if (squareCount >= SQUARES) return FULL;
        if (spare == null) spare = new Square();
        boolean whole = text.readInto(spare);
        text.length = 0;
        if (!whole) return FAULT - text.place;
        squares[squareCount] = spare;
        spare = null;
        now.square = squareCount;
        squareCount++;
        return now.square;
    }

    public int told(int what) {
        if (within(what, SOAP, DIPS)) return now.bucket[what];
        if (what == 4) return now.good();
        return what == 5 ? now.minute : NONE;
    }

    public int pause(int n) {
        if (!within(n, 0, PAUSE)) return BAD;
        if (now.minute + n > MINUTE) return STATE;
        now.minute += n;
        return now.minute;
    }

    // ---- goes

    public int go(int blower) {
        Blower one = find(blower);
        if (one == null) return NONE;
        if (now.bucket[DIPS] < 1 || now.minute > MINUTE_OF_A_GO) return STATE;
        begin(one);
        course.run(one);
        now.bucket[DIPS]--;
        now.minute = course.minute;
        one.coins = Math.min(one.coins + course.brings, COINS);
        return course.size;
    }

    public int would(int blower, int what) {
        Blower one = find(blower);
        if (one == null || !within(what, 0, 4)) return NONE;
        begin(one);
        course.run(one);
        switch (what) {
            case 0: return course.size;
            case 1: return course.life;
            case 2: return course.torn ? 1 : 0;
            case 3: return course.brings;
            default: return course.minutes;
        }
    }

    public int aim(int blower, int what) {
        return bestBy(BY_AIM, 1, AIM, blower, what);
    }

    public int cord(int blower, int what) {
        return bestBy(BY_CORD, 1, CORD, blower, what);
    }

    public int best(int blower, int what) {
        return bestBy(BY_MIX, 0, 99, blower, what);
    }

    public int when(int blower, int what) {
        return bestBy(BY_PAUSE, 0, 23, blower, what);
    }

    // ---- days

    public int day(int n, int what) {
        if (find(what) == null && what != DAY_TORN && what != DAY_MINUTE) return NONE;
        if (!within(n, 0, GOES)) return BAD;
        runDay(n);
        if (what == DAY_TORN) return dayTorn;
        if (what == DAY_MINUTE) return dayMinute;
        return within(what, 0, BLOWERS - 1) ? dayBrings[what] : NONE;
    }

    public int most(int n) {
        if (!within(n, 0, GOES)) return BAD;
        runDay(n);
        int first = NOT_ANY;
        int most = -1;
        for (int i = 0; i < now.blowerCount; i++) {
            if (dayBrings[i] > most) {
                most = dayBrings[i];
                first = i;
            }
        }
        return first;
    }

    public int longest(int blower, int what) {
        Blower one = find(blower);
        if (one == null || !within(what, 0, 1)) return NONE;
        int longest = 0;
        int minutes = NOT_ANY;
        for (int n = 0; n < MINUTES_AHEAD; n++) {
            runAhead(one, n);
            if (course.life > longest) {
                longest = course.life;
                minutes = n;
            }
        }
        return what == 0 ? longest : minutes;
    }

    // ---- seen, odds, books

    public int see(int blower, int n, int size) {
        if (blower == -1) {
            now.seenCount = 0;
            return 0;
        }
        if (find(blower) == null) return NONE;
        if (!within(n, 0, SEEN_MINUTES) || !within(size, 0, SEEN_SIZE)) return BAD;
        if (now.seenCount >= SEEN) return FULL;
        now.seenBlowers[now.seenCount] = blower;
        now.seenMinutes[now.seenCount] = n;
        now.seenSizes[now.seenCount] = size;
        now.seenCount++;
        return now.seenCount;
    }

    public int was() {
        int bits = 0;
        for (int soap = 0; soap <= DIGIT; soap++) {
            if (isAllSeenBy(soap)) bits |= 1 << soap;
        }
        return bits;
    }

    public int calm(int blower) {
        Blower one = find(blower);
        if (one == null) return NO_ONE_TO_CALM;
        begin(one);
        course.run(one);
        int windy = course.brings;
        begin(one);
        course.calm = true;
        course.run(one);
        return course.brings - windy;
    }

    public long odds(int blower, int part) {
        Blower one = find(blower);
        if (one == null || !within(part, 0, 1)) return NO;
        int torn = 0;
        for (int gust = 0; gust < GUSTS; gust++) {
            begin(one);
            course.gust = gust;
            course.run(one);
            if (course.torn) torn++;
        }
        return lowest(torn, GUSTS, part);
    }

    public long mean(int blower, int part) {
        Blower one = find(blower);
        if (one == null || !within(part, 0, 1)) return NO;
        int together = 0;
        for (int n = 0; n < MINUTES_AHEAD; n++) {
            runAhead(one, n);
            together += course.brings;
        }
        return lowest(together, MINUTES_AHEAD, part);
    }

    public int book(int blower, boolean torn) {
        if (blower == -1) {
            now.bookCount = 0;
            return 0;
        }
        if (find(blower) == null) return NONE;
        if (now.bookCount >= BOOK) return FULL;
        now.bookBlowers[now.bookCount] = blower;
        now.bookTorn[now.bookCount] = torn;
        now.bookCount++;
        return now.bookCount;
    }

    public int looked() {
        int minute = now.minute;
        for (int i = 0; i < now.bookCount; i++) {
            Blower one = find(now.bookBlowers[i]);
            if (one == null || i >= now.bucket[DIPS]) return i;
            begin(one);
            course.minute = minute;
            course.run(one);
            if (course.torn != now.bookTorn[i]) return i;
            minute = course.minute;
        }
        return NOT_ANY;
    }

    // ---- judging, the image, acts, tapes

    public int judge(int tape, int i) {
        if (!isTape(tape)) return NONE;
        if (holds(tape) && tapeSorts[tape] != LONGS) return CAST;
        // A tape that holds nothing has length 0, so it ends ahead of all.
        for (int k = 0; k < now.blowerCount; k++) {
            long place = (long) i + k;
            if (i < 0 || place >= tapeLengths[tape]) return 100 + k;
            Blower one = find(k);
            if (one == null || tapeItems[tape][(int) place] != one.coins) return k;
        }
        return NOT_ANY;
    }

    public int image() {
        if (image == null) image = new State();
        image.copy(now);
        image.keepBlowers();
        return now.blowerCount;
    }

    public int undo() {
        if (image == null) return STATE;
        now.copy(image);
        image.giveBackToBlowers();
        return now.blowerCount;
    }

    public int act(int blower, int act, int x) {
        bodies[0] = 0;
        Blower one = find(blower);
        if (one == null) return 0;
        switch (act) {
            case 0: return one.opens(x, bodies);
            case 1: return one.grows(x, bodies);
            case 2: return one.tells(x, bodies);
            default: return 0;
        }
    }

    public int trace(int i) {
        if (i < 0 || i >= TRACE || i >= bodies[0]) return NONE;
        return bodies[1 + i];
    }

    public int taken(int blower, int k) {
        if (k < 0 || k > 6) return BAD;
        Blower one = find(blower);
        if (one == null) return NOTHING;
        return isOfKind(one, k) ? one.kind : CAST;
    }

    public int count(int what) {
        switch (what) {
            case 0: return now.blowerCount;
            case 1: return squareCount;
            case 2: return now.seenCount;
            case 3: return now.bookCount;
            case 4: return text.length;
            case 5: return bodies[0];
            default: return BAD;
        }
    }

    public int tape(int tape, int sort, int n) {
        if (!isTape(tape)) return NONE;
        if (sort < -1 || sort > BOOLEANS) return BAD;
        int length = sort == -1 ? 0 : n;
        if (length > TAPE_ITEMS) return BAD;
        if (length < 0) return SIZE;
        tapeSorts[tape] = sort;
        tapeLengths[tape] = length;
        for (int i = 0; i < length; i++) tapeItems[tape][i] = 0;
        return 1;
    }

    public int item(int tape, int i, long v) {
        if (!isTape(tape)) return NONE;
        if (!holds(tape)) return NOTHING;
        if (i < 0 || i >= tapeLengths[tape]) return PLACE;
        tapeItems[tape][i] = asItem(tapeSorts[tape], v);
        return 1;
    }

    public long read(int tape, int i) {
        if (!isTape(tape) || i < 0 || i >= tapeLengths[tape]) return NO;
        return tapeItems[tape][i];
    }

    public int shift(int tape, int i, int other, int j, int n) {
        if (!isTape(tape) || !isTape(other)) return NONE;
        if (!holds(tape) || !holds(other)) return NOTHING;
        if (tapeSorts[tape] != tapeSorts[other]) return CAST;
        if (!hasPlaces(tape, i, n) || !hasPlaces(other, j, n)) return PLACE;
        System.arraycopy(tapeItems[tape], i, tapeItems[other], j, n);
        return n;
    }

    private static boolean within(int n, int least, int most) {
        return n >= least && n <= most;
    }

    private Blower find(int blower) {
        return within(blower, 0, now.blowerCount - 1) ? now.blowers[blower] : null;
    }

    private static Blower made(int kind, int number, int v, int cord, int aim) {
        switch (kind) {
            case 1: return new Bold(kind, number, v, cord, aim);
            case 2: return new Careful(kind, number, v, cord, aim);
            case 3: return new Slow(kind, number, v, cord, aim);
            case 4: return new Mad(kind, number, v, cord, aim);
            case 5: return new Wise(kind, number, v, cord, aim);
            case 6: return new Told(kind, number, v, cord, aim);
            default: return new Blower(kind, number, v, cord, aim);
        }
    }

    private static boolean isOfKind(Blower one, int kind) {
        switch (kind) {
            case 1: return one instanceof Bold;
            case 2: return one instanceof Careful;
            case 3: return one instanceof Slow;
            case 4: return one instanceof Mad;
            case 5: return one instanceof Wise;
            case 6: return one instanceof Told;
            default: return true;
        }
    }

    /** Makes the course ready for a go now; what a question puts in place of that is set behind this. */
    private void begin(Blower one) {
        course.square = within(now.square, 0, SQUARES - 1) ? squares[now.square] : null;
        course.cord = one.cord;
        course.aim = one.aim;
        course.good = now.good();
        course.minute = now.minute;
        course.gust = 0;
        course.calm = false;
    }

    private void runAhead(Blower one, int minutes) {
        begin(one);
        course.minute += minutes;
        course.run(one);
    }

    /** Of the numbers from .. to in place of a part of a go now: the first that brings most, or how much. */
    private int bestBy(int part, int from, int to, int blower, int what) {
        Blower one = find(blower);
        if (one == null || !within(what, 0, 1)) return NONE;
        int best = from;
        int most = -1;
        for (int n = from; n <= to; n++) {
            begin(one);
            vary(part, n);
            course.run(one);
            if (course.brings > most) {
                most = course.brings;
                best = n;
            }
        }
        return what == 0 ? best : most;
    }

    private void vary(int part, int n) {
        switch (part) {
            case BY_AIM: course.aim = n; break;
            case BY_CORD: course.cord = n; break;
            case BY_MIX: course.good = State.goodOf(n / 10, n % 10, now.bucket[GUAR]); break;
            default: course.minute += n; break;
        }
    }

    private void runDay(int n) {
        for (int i = 0; i < BLOWERS; i++) dayBrings[i] = 0;
        dayTorn = 0;
        dayMinute = now.minute;
        int next = 0;
        for (int g = 0; g < n && g < now.bucket[DIPS]; g++) {
            Blower one = find(next);
            if (one == null) return;
            begin(one);
            course.minute = dayMinute;
            course.run(one);
            dayBrings[next] += course.brings;
            if (course.torn) dayTorn++;
            dayMinute = course.minute;
            next = next + 1 < now.blowerCount ? next + 1 : 0;
        }
    }

    private boolean isAllSeenBy(int soap) {
        for (int i = 0; i < now.seenCount; i++) {
            Blower one = find(now.seenBlowers[i]);
            if (one == null) return false;
            begin(one);
            course.good = State.goodOf(soap, now.bucket[SUGAR], now.bucket[GUAR]);
            course.minute += now.seenMinutes[i];
            course.run(one);
            if (course.size != now.seenSizes[i]) return false;
        }
        return true;
    }

    /** Part 0 above, 1 below the line of a fraction in lowest terms. */
    private static int lowest(int above, int below, int part) {
        int common = 1;
        for (int d = 2; d <= below; d++) {
            if (above % d == 0 && below % d == 0) common = d;
        }
        return part == 0 ? above / common : below / common;
    }

    private static boolean isTape(int tape) {
        return within(tape, 0, TAPES - 1);
    }

    private boolean holds(int tape) {
        return tapeSorts[tape] != -1;
    }

    private boolean hasPlaces(int tape, int from, int n) {
        return from >= 0 && n >= 0 && (long) from + n <= tapeLengths[tape];
    }

    private static long asItem(int sort, long v) {
        switch (sort) {
            case BYTES: return (byte) v;
            case SHORTS: return (short) v;
            case INTS: return (int) v;
            case BOOLEANS: return v != 0 ? 1 : 0;
            default: return v;
        }
    }

    /** All that the image keeps: as it is now, and as it was. */
    private static final class State {
        final Blower[] blowers = new Blower[BLOWERS];
        int blowerCount = 0;
        final int[] bucket = {5, 3, 0, 20};
        int minute = 0;
        int square = -1;
        final int[] seenBlowers = new int[SEEN];
        final int[] seenMinutes = new int[SEEN];
        final int[] seenSizes = new int[SEEN];
        int seenCount = 0;
        final int[] bookBlowers = new int[BOOK];
        final boolean[] bookTorn = new boolean[BOOK];
        int bookCount = 0;
        // The blowers of an image go on changing, so what was theirs stands here.
        private final int[][] kept = new int[BLOWERS][Blower.KEPT];

        int good() {
            return goodOf(bucket[SOAP], bucket[SUGAR], bucket[GUAR]);
        }

        static int goodOf(int soap, int sugar, int guar) {
            return Math.max(30 - 4 * Math.abs(soap - 5) - 2 * Math.abs(sugar - 3) + guar, 0);
        }

        void copy(State other) {
            for (int i = 0; i < BLOWERS; i++) blowers[i] = other.blowers[i];
            blowerCount = other.blowerCount;
            System.arraycopy(other.bucket, 0, bucket, 0, bucket.length);
            minute = other.minute;
            square = other.square;
            System.arraycopy(other.seenBlowers, 0, seenBlowers, 0, SEEN);
            System.arraycopy(other.seenMinutes, 0, seenMinutes, 0, SEEN);
            System.arraycopy(other.seenSizes, 0, seenSizes, 0, SEEN);
            seenCount = other.seenCount;
            System.arraycopy(other.bookBlowers, 0, bookBlowers, 0, BOOK);
            System.arraycopy(other.bookTorn, 0, bookTorn, 0, BOOK);
            bookCount = other.bookCount;
        }

        void keepBlowers() {
            for (int i = 0; i < blowerCount; i++) {
                Blower one = blowers[i];
                if (one != null) one.keepIn(kept[i]);
            }
        }

        void giveBackToBlowers() {
            for (int i = 0; i < blowerCount; i++) {
                Blower one = blowers[i];
                if (one != null) one.takeFrom(kept[i]);
            }
        }
    }

    /** A go: how it begins is set from outside, run() does the rest, and then it tells how it went. */
    private static final class Course {
        private static final int MINUTES = 30;

        Square square = null;
        int cord = 0;
        int aim = 0;
        int good = 0;
        int minute = 0;
        int gust = 0;
        boolean calm = false;

        int size = 0;
        int film = 0;
        int wind = 0;
        int minutes = 0;
        int life = 0;
        int brings = 0;
        boolean torn = false;

        private final int[] letters = new int[Square.LETTERS];

        void run(Blower one) {
            one.tellLetters(letters);
            size = 0;
            film = cord * good;
            torn = false;
            for (int m = 1; m <= MINUTES; m++) {
                minutes = m;
                walk(one);
                if (film < size / 2) {
                    tear();
                    return;
                }
                if (one.shuts(this)) {
                    free();
                    return;
                }
            }
            tear();
        }

        private void walk(Blower one) {
            int gusts = minutes == 1 ? gust : 0;
            wind = calm ? 0 : look(Square.WIND, 0) + gusts;
            int pace = one.pace(size);
            size += pace;
            film -= pace + wind;
            minute++;
        }

        private void free() {
            life = 10 * film / (size + 1) / (look(Square.DRY, 1) + 1);
            brings = Math.min(size * life * look(Square.COIN, 1), BRINGS);
        }

        private void tear() {
            torn = true;
            size = 0;
            life = 0;
            brings = 0;
        }

        private int look(int word, int without) {
            if (square == null) return without;
            letters[Square.M] = minute % 12;
            letters[Square.S] = size / 10;
            letters[Square.F] = film / 10;
            return square.together(word, letters, without);
        }
    }

    /** Clauses that were read: each has a word, a number, and codes up to its end, operators behind operands. */
    private static final class Square {
        static final int WIND = 0, DRY = 1, COIN = 2;
        static final int B = 0, K = 1, V = 2, M = 3, S = 4, F = 5, LETTERS = 6;
        static final int NOT = 6, AND = 7, OR = 8;
        static final int LESS = 0, EQUAL = 1;
        static final int CLAUSES = 10;

        private final int[] words = new int[CLAUSES];
        private final int[] numbers = new int[CLAUSES];
        private final int[] ends = new int[CLAUSES];
        private int clauses = 0;

        // A code is a letter with a relation and a number, or an operator.
        private final int[] codes = new int[Text.SIGNS];
        private final int[] relations = new int[Text.SIGNS];
        private final int[] limits = new int[Text.SIGNS];
        private int codeCount = 0;

        void empty() {
            clauses = 0;
            codeCount = 0;
        }

        void add(int code, int relation, int limit) {
            // Each code comes of a sign of its own, so there is always room.
            if (codeCount >= codes.length) return;
            codes[codeCount] = code;
            relations[codeCount] = relation;
            limits[codeCount] = limit;
            codeCount++;
        }

        /** Makes a clause of the codes that came behind the last one. */
        void close(int word, int number) {
            if (clauses >= CLAUSES) return;
            words[clauses] = word;
            numbers[clauses] = number;
            ends[clauses] = codeCount;
            clauses++;
        }

        int together(int word, int[] letters, int without) {
            int sum = 0;
            boolean any = false;
            int from = 0;
            for (int i = 0; i < clauses; i++) {
                if (words[i] == word) {
                    any = true;
                    if (isSo(from, ends[i], letters)) sum += numbers[i];
                }
                from = ends[i];
            }
            return any ? sum : without;
        }

        private boolean isSo(int from, int end, int[] letters) {
            // The stack is the bits of an int: within 4 brackets, hardly a dozen wait at once.
            int stack = 0;
            for (int i = from; i < end; i++) {
                int code = codes[i];
                if (code >= 0 && code < letters.length) {
                    int n = letters[code];
                    boolean so = relations[i] == LESS ? n < limits[i]
                            : relations[i] == EQUAL ? n == limits[i] : n > limits[i];
                    stack = stack << 1 | (so ? 1 : 0);
                } else if (code == NOT) {
                    stack ^= 1;
                } else if (code == AND) {
                    stack = stack >> 1 & (stack | -2);
                } else {
                    stack = stack >> 1 | stack & 1;
                }
            }
            return (stack & 1) == 1;
        }
    }

    /** The text, and how it is read: place only moves over signs that some square has there. */
    private static final class Text {
        static final int SIGNS = 100;
        private static final int BRACKETS = 4;

        private final byte[] signs = new byte[SIGNS];
        int length = 0;
        int place = 0;

        boolean isFull() {
            return length >= SIGNS;
        }

        void add(int sign) {
            if (isFull()) return;
            signs[length] = (byte) sign;
            length++;
        }

        /** Whether all is a square; if not, place is where the fault is. */
        boolean readInto(Square square) {
            place = 0;
            square.empty();
            for (int i = 1; i <= Square.CLAUSES; i++) {
                if (!readClause(square)) return false;
                if (place >= length) return true;
                if (i == Square.CLAUSES || !passSign(';')) return false;
            }
            return false;
        }

        private boolean readClause(Square square) {
            int word = readWord();
            if (word < 0 || !passSign(' ')) return false;
            int number = readNumber();
            if (number < 0 || !passSign(' ')) return false;
            if (!readEither(square, 0)) return false;
            square.close(word, number);
            return true;
        }

        private int readWord() {
            switch (peek()) {
                case 'w': return passWord("wind") ? Square.WIND : -1;
                case 'd': return passWord("dry") ? Square.DRY : -1;
                case 'c': return passWord("coin") ? Square.COIN : -1;
                default: return -1;
            }
        }

        private boolean passWord(String word) {
            for (int i = 0; i < word.length(); i++) {
                if (!passSign(word.charAt(i))) return false;
            }
            return true;
        }

        /** One or two digits, or -1. */
        private int readNumber() {
            int number = -1;
            for (int i = 0; i < 2; i++) {
                int digit = peek() - '0';
                if (digit < 0 || digit > 9) return number;
                number = number < 0 ? digit : 10 * number + digit;
                place++;
            }
            return number;
        }

        /** E: parts with | between. */
        private boolean readEither(Square square, int depth) {
            if (!readBoth(square, depth)) return false;
            for (int i = 0; i < SIGNS && passSign('|'); i++) {
                if (!readBoth(square, depth)) return false;
                square.add(Square.OR, 0, 0);
            }
            return true;
        }

        /** T: parts with & between. */
        private boolean readBoth(Square square, int depth) {
            if (!readPart(square, depth)) return false;
            for (int i = 0; i < SIGNS && passSign('&'); i++) {
                if (!readPart(square, depth)) return false;
                square.add(Square.AND, 0, 0);
            }
            return true;
        }

        /** F, within as many ( and ! as depth says. */
        private boolean readPart(Square square, int depth) {
            int sign = peek();
            if (sign != '!' && sign != '(') return readTest(square);
            if (depth >= BRACKETS) return false;
            place++;
            if (sign == '(') return readEither(square, depth + 1) && passSign(')');
            if (!readPart(square, depth + 1)) return false;
            square.add(Square.NOT, 0, 0);
            return true;
        }

        private boolean readTest(Square square) {
            int letter = readOneOf("bkvmsf");
            if (letter < 0) return false;
            int relation = readOneOf("<=>");
            if (relation < 0) return false;
            int limit = readNumber();
            if (limit < 0) return false;
            square.add(letter, relation, limit);
            return true;
        }

        /** Which of some signs stands here; their order is that of the numbers in Square. */
        private int readOneOf(String some) {
            int sign = peek();
            for (int i = 0; i < some.length(); i++) {
                if (some.charAt(i) == sign) {
                    place++;
                    return i;
                }
            }
            return -1;
        }

        private boolean passSign(int sign) {
            if (peek() != sign) return false;
            place++;
            return true;
        }

        private int peek() {
            return place < length ? signs[place] : -1;
        }
    }

    private static class Blower {
        static final int KEPT = 3 + ROW;

        final int kind;
        final int number;
        final int v;
        int cord;
        int aim;
        int coins = 0;

        Blower(int kind, int number, int v, int cord, int aim) {
            this.kind = kind;
            this.number = number;
            this.v = v;
            this.cord = cord;
            this.aim = aim;
        }

        void tellLetters(int[] letters) {
            letters[Square.B] = number;
            letters[Square.K] = kind;
            letters[Square.V] = v;
        }

        void keepIn(int[] kept) {
            kept[0] = cord;
            kept[1] = aim;
            kept[2] = coins;
        }

        void takeFrom(int[] kept) {
            cord = kept[0];
            aim = kept[1];
            coins = kept[2];
        }

        int pace(int size) {
            return 2;
        }

        boolean shuts(Course course) {
            return course.size >= course.aim;
        }

        int opens(int x, int[] bodies) {
            note(10, bodies);
            return x + number;
        }

        int grows(int x, int[] bodies) {
            note(11, bodies);
            return opens(x, bodies) - v;
        }

        int tells(int x, int[] bodies) {
            note(12, bodies);
            return grows(x, bodies) * 2;
        }

        static void note(int body, int[] bodies) {
            bodies[0]++;
            int place = bodies[0];
            if (place > 0 && place < bodies.length) bodies[place] = body;
        }
    }

    private static class Bold extends Blower {
        Bold(int kind, int number, int v, int cord, int aim) {
            super(kind, number, v, cord, aim);
        }

        boolean shuts(Course course) {
            return course.size >= course.aim + v;
        }

        int grows(int x, int[] bodies) {
            note(20, bodies);
            return super.grows(x, bodies) ^ 6;
        }
    }

    private static class Careful extends Blower {
        Careful(int kind, int number, int v, int cord, int aim) {
            super(kind, number, v, cord, aim);
        }

        boolean shuts(Course course) {
            return super.shuts(course) || course.film <= course.size + v;
        }

        int opens(int x, int[] bodies) {
            note(30, bodies);
            return super.opens(x * 3, bodies);
        }
    }

    private static class Slow extends Blower {
        Slow(int kind, int number, int v, int cord, int aim) {
            super(kind, number, v, cord, aim);
        }

        int pace(int size) {
            return 1;
        }

        int tells(int x, int[] bodies) {
            note(40, bodies);
            return super.tells(x, bodies) + grows(1, bodies);
        }
    }

    private static final class Mad extends Bold {
        Mad(int kind, int number, int v, int cord, int aim) {
            super(kind, number, v, cord, aim);
        }

        int pace(int size) {
            return size < 20 ? 3 : 2;
        }

        boolean shuts(Course course) {
            return course.wind <= 5 && super.shuts(course);
        }

        int opens(int x, int[] bodies) {
            note(50, bodies);
            return -super.opens(x, bodies);
        }

        int grows(int x, int[] bodies) {
            note(51, bodies);
            return super.grows(x + 1, bodies);
        }
    }

    private static final class Wise extends Careful {
        Wise(int kind, int number, int v, int cord, int aim) {
            super(kind, number, v, cord, aim);
        }

        boolean shuts(Course course) {
            return super.shuts(course) || course.wind == 0 && course.size >= 10;
        }

        int tells(int x, int[] bodies) {
            note(60, bodies);
            return super.tells(x - number, bodies);
        }
    }

    private static final class Told extends Slow {
        final int[] row = new int[ROW];

        Told(int kind, int number, int v, int cord, int aim) {
            super(kind, number, v, cord, aim);
        }

        void keepIn(int[] kept) {
            super.keepIn(kept);
            System.arraycopy(row, 0, kept, 3, ROW);
        }

        void takeFrom(int[] kept) {
            super.takeFrom(kept);
            System.arraycopy(kept, 3, row, 0, ROW);
        }

        boolean shuts(Course course) {
            return course.size >= course.aim + row[Math.floorMod(course.minute, ROW)];
        }

        int grows(int x, int[] bodies) {
            note(70, bodies);
            return super.grows(x, bodies) + super.opens(2, bodies);
        }

        int opens(int x, int[] bodies) {
            note(71, bodies);
            return super.opens(x, bodies) ^ v;
        }
    }
}
