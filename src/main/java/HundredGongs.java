import java.util.Arrays;

/** A cloister of gongs, each with a monk who hears one other gong only and strikes his own behind it. */
public final class HundredGongs {
    public static final int NONE = -1, UNKNOWN = -2, OUTSIDE = -3, NOT = -4, FULL = -5;

    private static final int LEAST_GONGS = 2, MOST_GONGS = 10, GONGS_AT_FIRST = 4;
    private static final int MOST_SPAN = 9, MOST_SPAN_IN_FOG = 4;
    private static final int MOST_DELAY = 20;
    /** A sleepy monk of the greatest delay, in frost. */
    private static final int MOST_LATE = 2 * MOST_DELAY + 1;
    private static final int PLAIN = 0, DEAF = 1, SLEEPY = 2, DOUBTER = 3;
    private static final int CLEAR = 0, FOG = 1, FROST = 2;
    private static final int MOST_BYTES = 200, MOST_LINES = 12, MOST_BYTES_AT_ONCE = 8;
    private static final int MOST_MINUTES_AT_ONCE = 99, LAST_MINUTE = 99999;
    private static final int MORNINGS = 2;
    private static final int MOST_SEEN = 8;
    private static final int MOST_TIMES = 64;
    private static final int TENTHS = 10;
    /** The kind right over each: MONK 0, PLAIN 1, DEAF 2, SLEEPY 3, DOUBTER 4. */
    private static final int[] KIND_OVER = {-1, 0, 0, 1, 1};

    private final Text text;
    private final Cloister house;
    /** What the text would make of the house; a text with a fault leaves the house alone. */
    private final Cloister draft;
    private final Morning morning;
    private final Morning[] kept;
    private final boolean[] isKept;
    private final Sightings sightings;
    private final Foretelling foretelling;

    public HundredGongs() {
        text = new Text();
        house = new Cloister();
        draft = new Cloister();
        morning = new Morning();
        kept = new Morning[MORNINGS];
        for (int k = 0; k < MORNINGS; k++) {
            kept[k] = new Morning();
        }
        isKept = new boolean[MORNINGS];
        sightings = new Sightings();
        foretelling = new Foretelling();
    }

    // ---- what is told

    public int write(long bytes, int n) {
        if (n < 1 || n > MOST_BYTES_AT_ONCE) {
            return OUTSIDE;
        }
        if (text.length + n > MOST_BYTES) {
            return FULL;
        }
        for (int i = 0; i < n; i++) {
            text.append((int) (bytes >> 8 * i & 255));
        }
        return text.length;
    }

    public int erase() {
        int had = text.length;
        text.length = 0;
        return had;
    }

    public int fault() {
        draft.copyFrom(house);
        return text.readOnto(draft);
    }

    public int cloister() {
        draft.copyFrom(house);
        if (text.readOnto(draft) != NONE) {
            return NOT;
        }
        house.copyFrom(draft);
        text.length = 0;
        morning.begin(house.toldWeather);
        sightings.size = 0;
        for (int k = 0; k < MORNINGS; k++) {
            isKept[k] = false;
        }
        return text.lines;
    }

    public int gong(int gong, int what) {
        if (!house.has(gong)) {
            return UNKNOWN;
        }
        switch (what) {
            case 0:
                return house.hears[gong];
            case 1:
                return house.span[gong];
            case 2:
                return house.canHear(gong, morning.weather) ? 1 : 0;
            case 3:
                return morning.strikes[gong];
            case 4:
                return morning.minutesToNext(gong);
            default:
                return OUTSIDE;
        }
    }

    public int monk(int gong, int what) {
        if (!house.has(gong)) {
            return UNKNOWN;
        }
        switch (what) {
            case 0:
                return house.kind[gong];
            case 1:
                return house.delay[gong];
            case 2:
                return house.late(gong, morning.weather);
            case 3:
                return morning.heardOdd[gong] ? 1 : 0;
            default:
                return OUTSIDE;
        }
    }

    public int as(int gong, int kind) {
        if (!house.has(gong)) {
            return UNKNOWN;
        }
        if (kind < 0 || kind >= KIND_OVER.length) {
            return OUTSIDE;
        }
        return isSuch(house.kind[gong], kind) ? house.late(gong, morning.weather) : NOT;
    }

    /** A monk's own kind is told by one number less than its place among the kinds over one another. */
    private static boolean isSuch(int ownKind, int kind) {
        int at = ownKind + 1;
        for (int level = 0; level < KIND_OVER.length; level++) {
            if (at < 0 || at >= KIND_OVER.length) {
                return false;
            }
            if (at == kind) {
                return true;
            }
            at = KIND_OVER[at];
        }
        return false;
    }

    // ---- minutes

    public int strike(int gong) {
        return house.has(gong) ? morning.soundGong(house, gong) : UNKNOWN;
    }

    public int go(int n) {
        if (n < 1 || n > MOST_MINUTES_AT_ONCE) {
            return OUTSIDE;
        }
        if (morning.minute + n > LAST_MINUTE) {
            return FULL;
        }
        int strikes = 0;
        for (int i = 0; i < n; i++) {
            strikes += morning.passMinute(house);
        }
        return strikes;
    }

    public int turn(int weather) {
        if (weather < CLEAR || weather > FROST) {
            return OUTSIDE;
        }
        int was = morning.weather;
        morning.weather = weather;
        return was;
    }

    public int keep(int k) {
        if (k < 0 || k >= MORNINGS) {
            return UNKNOWN;
        }
        kept[k].copyFrom(morning);
        isKept[k] = true;
        return morning.minute;
    }

    public int back(int k) {
        if (k < 0 || k >= MORNINGS) {
            return UNKNOWN;
        }
        if (!isKept[k]) {
            return NOT;
        }
        morning.copyFrom(kept[k]);
        return morning.minute;
    }

    // ---- foretold

    public int first(int from, int gong) {
        if (!house.has(from) || !house.has(gong)) {
            return UNKNOWN;
        }
        return foretold().minutesTo(from, gong);
    }

    public int who(int from) {
        return house.has(from) ? foretold().strikers(from) : UNKNOWN;
    }

    public int ends(int from) {
        return house.has(from) ? foretold().lastMinute(from) : UNKNOWN;
    }

    public int round(int gong) {
        return house.has(gong) ? foretold().roundMinutes(gong) : UNKNOWN;
    }

    public int times(int from, int gong, int m) {
        if (!house.has(from) || !house.has(gong)) {
            return UNKNOWN;
        }
        if (m < 1 || m > MOST_TIMES) {
            return OUTSIDE;
        }
        return foretold().strokes(from, gong, m);
    }

    public int apart(int from, int a, int b) {
        if (!house.has(from) || !house.has(a) || !house.has(b)) {
            return UNKNOWN;
        }
        return foretold().minutesBetween(from, a, b);
    }

    public int change(int from, int a, int b, int what) {
        if (!house.has(from) || !house.has(a) || !house.has(b)) {
            return UNKNOWN;
        }
        if (what < 0 || what > 2) {
            return OUTSIDE;
        }
        Foretelling told = foretold();
        told.seekChange(from, a, b);
        return what == 0 ? told.bestValue : what == 1 ? told.bestGong : told.bestOther;
    }

    public int over(int from, int what) {
        if (!house.has(from)) {
            return UNKNOWN;
        }
        if (what < 0 || what > 1) {
            return OUTSIDE;
        }
        Foretelling told = foretold();
        told.seekOver(house, from);
        return what == 0 ? told.bestGong : told.bestValue;
    }

    public int odds(int from, int gong, int p, int part) {
        if (!house.has(from) || !house.has(gong)) {
            return UNKNOWN;
        }
        if (p < 0 || p > TENTHS || part < 0 || part > 1) {
            return OUTSIDE;
        }
        int monks = foretold().monksOnWay(from, gong);
        if (monks == NONE) {
            return part;
        }
        int common = commonDivisor(TENTHS - p, TENTHS);
        int one = part == 0 ? TENTHS - p : TENTHS;
        return power(common > 0 ? one / common : one, monks);
    }

    private Foretelling foretold() {
        foretelling.suppose(house, morning.weather);
        return foretelling;
    }

    private static int commonDivisor(int a, int b) {
        for (int divisor = b; divisor > 1; divisor--) {
            if (a % divisor == 0 && b % divisor == 0) {
                return divisor;
            }
        }
        return 1;
    }

    private static int power(int base, int exponent) {
        int product = 1;
        for (int i = 0; i < exponent; i++) {
            product *= base;
        }
        return product;
    }

    // ---- what was seen

    public int seen(int gong, int struck) {
        if (!house.has(gong)) {
            return UNKNOWN;
        }
        if (struck < 0 || struck > 1) {
            return OUTSIDE;
        }
        return sightings.note(gong, struck == 1) ? sightings.size : FULL;
    }

    public int forget() {
        int had = sightings.size;
        sightings.size = 0;
        return had;
    }

    public int asleep(int from, int what) {
        if (!house.has(from)) {
            return UNKNOWN;
        }
        if (what < 0 || what > 1) {
            return OUTSIDE;
        }
        Foretelling told = foretold();
        if (what == 1) {
            return sightings.agreeWith(told.strikers(from)) ? 1 : 0;
        }
        int bits = 0;
        for (int monk = 0; monk < house.gongs; monk++) {
            told.sleeper = monk;
            if (monk != from && sightings.agreeWith(told.strikers(from))) {
                bits |= 1 << monk;
            }
        }
        return bits;
    }

    public int count(int what) {
        switch (what) {
            case 0:
                return house.gongs;
            case 1:
                return morning.weather;
            case 2:
                return morning.minute;
            case 3:
                return morning.gongsToCome();
            case 4:
                return morning.strikesInAll();
            case 5:
                return sightings.size;
            case 6:
                return text.length;
            default:
                return OUTSIDE;
        }
    }

    /** The gongs, whom each hears, and the monks: all that a text tells. */
    private static final class Cloister {
        final int[] hears;
        final int[] span;
        final int[] kind;
        final int[] delay;
        int gongs;
        /** By texts alone: weather that turns is the morning's, and a next text does not know it. */
        int toldWeather;

        Cloister() {
            hears = new int[MOST_GONGS];
            span = new int[MOST_GONGS];
            kind = new int[MOST_GONGS];
            delay = new int[MOST_GONGS];
            found(GONGS_AT_FIRST);
        }

        void found(int n) {
            gongs = n;
            Arrays.fill(hears, NONE);
            Arrays.fill(span, 0);
            Arrays.fill(kind, PLAIN);
            Arrays.fill(delay, 1);
            toldWeather = CLEAR;
        }

        void copyFrom(Cloister other) {
            gongs = other.gongs;
            toldWeather = other.toldWeather;
            System.arraycopy(other.hears, 0, hears, 0, MOST_GONGS);
            System.arraycopy(other.span, 0, span, 0, MOST_GONGS);
            System.arraycopy(other.kind, 0, kind, 0, MOST_GONGS);
            System.arraycopy(other.delay, 0, delay, 0, MOST_GONGS);
        }

        boolean has(int gong) {
            return gong >= 0 && gong < gongs;
        }

        boolean canHear(int gong, int weather) {
            return gong >= 0 && gong < gongs && hears[gong] != NONE && kind[gong] != DEAF
                    && span[gong] <= (weather == FOG ? MOST_SPAN_IN_FOG : MOST_SPAN);
        }

        int late(int gong, int weather) {
            int minutes = kind[gong] == SLEEPY ? 2 * delay[gong] : delay[gong];
            return weather == FROST ? minutes + 1 : minutes;
        }

        void swapMonks(int a, int b) {
            int kindOfA = kind[a];
            int delayOfA = delay[a];
            kind[a] = kind[b];
            delay[a] = delay[b];
            kind[b] = kindOfA;
            delay[b] = delayOfA;
        }

        void hearOver(int deaf) {
            int behind = hears[deaf];
            if (behind == NONE) {
                return;
            }
            for (int gong = 0; gong < gongs; gong++) {
                if (hears[gong] == deaf && gong != behind) {
                    hears[gong] = behind;
                    span[gong] += span[deaf];
                }
            }
        }
    }

    /** The bytes of the text, and how they are read: token by token, to the first that cannot stand. */
    private static final class Text {
        private static final int SEMICOLON = 59, BLANK = 32;
        private static final int CLOISTER = 0, HEARS = 1, ALONE = 2, FIRST_KIND = 3, FIRST_WEATHER = 7, WORDS = 10;
        private static final int MOST_DIGITS = 2;

        private final int[] bytes;
        int length;
        /** How many lines the last reading took in. */
        int lines;
        /** The token that is looked at; at the end both are the length. */
        private int start;
        private int end;
        private int number;

        Text() {
            bytes = new int[MOST_BYTES];
        }

        void append(int value) {
            if (length < MOST_BYTES) {
                bytes[length] = value;
                length++;
            }
        }

        /** The place of the fault, up to which the lines have been done; or NONE, and all have been. */
        int readOnto(Cloister draft) {
            end = 0;
            lines = 0;
            while (lines < MOST_LINES) {
                if (!readLine(draft)) {
                    return start;
                }
                lines++;
                nextToken();
                if (start == length) {
                    return NONE;
                }
                if (byteAt(start) != SEMICOLON) {
                    return start;
                }
            }
            return start;
        }

        private boolean readLine(Cloister draft) {
            nextToken();
            int word = wordHere();
            if (word == NONE) {
                return false;
            }
            if (word >= FIRST_WEATHER) {
                draft.toldWeather = word - FIRST_WEATHER;
                return true;
            }
            if (word >= FIRST_KIND) {
                return readMonk(draft, word - FIRST_KIND);
            }
            switch (word) {
                case CLOISTER:
                    return readCloister(draft);
                case HEARS:
                    return readHears(draft);
                case ALONE:
                    return readAlone(draft);
                default:
                    return false;
            }
        }

        private boolean readCloister(Cloister draft) {
            if (!nextNumber(LEAST_GONGS, MOST_GONGS)) {
                return false;
            }
            draft.found(number);
            return true;
        }

        private boolean readHears(Cloister draft) {
            if (!nextNumber(0, draft.gongs - 1)) {
                return false;
            }
            int gong = number;
            if (!nextNumber(0, draft.gongs - 1) || number == gong) {
                return false;
            }
            int heard = number;
            if (!nextNumber(1, MOST_SPAN)) {
                return false;
            }
            draft.hears[gong] = heard;
            draft.span[gong] = number;
            return true;
        }

        private boolean readAlone(Cloister draft) {
            if (!nextNumber(0, draft.gongs - 1)) {
                return false;
            }
            draft.hears[number] = NONE;
            draft.span[number] = 0;
            return true;
        }

        private boolean readMonk(Cloister draft, int kind) {
            if (!nextNumber(0, draft.gongs - 1)) {
                return false;
            }
            int gong = number;
            if (!nextNumber(1, MOST_DELAY)) {
                return false;
            }
            draft.kind[gong] = kind;
            draft.delay[gong] = number;
            return true;
        }

        private void nextToken() {
            start = end;
            while (start < length && byteAt(start) == BLANK) {
                start++;
            }
            end = start;
            if (isLetter(byteAt(start))) {
                while (end < length && isLetter(byteAt(end))) {
                    end++;
                }
            } else if (isDigit(byteAt(start))) {
                while (end < length && isDigit(byteAt(end))) {
                    end++;
                }
            } else if (end < length) {
                end++;
            }
        }

        private boolean nextNumber(int least, int most) {
            nextToken();
            if (!isDigit(byteAt(start)) || end - start > MOST_DIGITS) {
                return false;
            }
            number = 0;
            for (int i = start; i < end; i++) {
                number = number * 10 + byteAt(i) - '0';
            }
            return number >= least && number <= most;
        }

        private int wordHere() {
            for (int word = 0; word < WORDS; word++) {
                if (tokenIs(wordAt(word))) {
                    return word;
                }
            }
            return NONE;
        }

        private boolean tokenIs(String word) {
            if (end - start != word.length()) {
                return false;
            }
            for (int i = 0; i < word.length(); i++) {
                if (byteAt(start + i) != word.charAt(i)) {
                    return false;
                }
            }
            return true;
        }

        /** The kinds and the weathers stand in the order of their numbers. */
        private static String wordAt(int word) {
            switch (word) {
                case CLOISTER:
                    return "cloister";
                case HEARS:
                    return "hears";
                case ALONE:
                    return "alone";
                case FIRST_KIND + PLAIN:
                    return "plain";
                case FIRST_KIND + DEAF:
                    return "deaf";
                case FIRST_KIND + SLEEPY:
                    return "sleepy";
                case FIRST_KIND + DOUBTER:
                    return "doubter";
                case FIRST_WEATHER + CLEAR:
                    return "clear";
                case FIRST_WEATHER + FOG:
                    return "fog";
                default:
                    return "frost";
            }
        }

        private static boolean isLetter(int value) {
            return value >= 'a' && value <= 'z';
        }

        private static boolean isDigit(int value) {
            return value >= '0' && value <= '9';
        }

        /** No byte is NONE, so the end is neither letter nor digit nor sign. */
        private int byteAt(int place) {
            return place >= 0 && place < length && place < MOST_BYTES ? bytes[place] : NONE;
        }
    }

    /** What goes on from minute to minute, and what is kept of it. */
    private static final class Morning {
        /** Of each gong, bit i: it is to strike in i minutes. */
        private final long[] coming;
        final int[] strikes;
        /** Of each doubter: he has heard an odd number of strikes. */
        final boolean[] heardOdd;
        int minute;
        int weather;

        Morning() {
            coming = new long[MOST_GONGS];
            strikes = new int[MOST_GONGS];
            heardOdd = new boolean[MOST_GONGS];
        }

        void begin(int toldWeather) {
            for (int gong = 0; gong < MOST_GONGS; gong++) {
                coming[gong] = 0;
                strikes[gong] = 0;
                heardOdd[gong] = false;
            }
            minute = 0;
            weather = toldWeather;
        }

        void copyFrom(Morning other) {
            for (int gong = 0; gong < MOST_GONGS; gong++) {
                coming[gong] = other.coming[gong];
                strikes[gong] = other.strikes[gong];
                heardOdd[gong] = other.heardOdd[gong];
            }
            minute = other.minute;
            weather = other.weather;
        }

        /** A strike, and those that will strike by it, by bits. */
        int soundGong(Cloister house, int struck) {
            strikes[struck]++;
            int bits = 0;
            for (int gong = 0; gong < house.gongs; gong++) {
                if (house.hears[gong] == struck && house.canHear(gong, weather) && heeds(house, gong)) {
                    coming[gong] |= 1L << house.late(gong, weather);
                    bits |= 1 << gong;
                }
            }
            return bits;
        }

        private boolean heeds(Cloister house, int gong) {
            if (house.kind[gong] != DOUBTER) {
                return true;
            }
            heardOdd[gong] = !heardOdd[gong];
            return !heardOdd[gong];
        }

        /** All that strike in this minute are found before one of them is heard. */
        int passMinute(Cloister house) {
            minute++;
            int now = 0;
            for (int gong = 0; gong < house.gongs; gong++) {
                coming[gong] >>= 1;
                if ((coming[gong] & 1L) != 0) {
                    coming[gong] ^= 1L;
                    now |= 1 << gong;
                }
            }
            for (int gong = 0; gong < house.gongs; gong++) {
                if ((now >> gong & 1) != 0) {
                    soundGong(house, gong);
                }
            }
            return Integer.bitCount(now);
        }

        int minutesToNext(int gong) {
            for (int minutes = 1; minutes <= MOST_LATE; minutes++) {
                if ((coming[gong] >> minutes & 1L) != 0) {
                    return minutes;
                }
            }
            return NONE;
        }

        int gongsToCome() {
            int bits = 0;
            for (int gong = 0; gong < MOST_GONGS; gong++) {
                if (coming[gong] != 0) {
                    bits |= 1 << gong;
                }
            }
            return bits;
        }

        int strikesInAll() {
            int sum = 0;
            for (int gong = 0; gong < MOST_GONGS; gong++) {
                sum += strikes[gong];
            }
            return sum;
        }
    }

    /** The way by which a strike comes from one gong to another; each hears one only, so there is one at most. */
    private static final class Way {
        int minutes;
        int doubters;
        int monks;

        /** Goes back from a gong, one step at least: from a gong to itself it is the whole ring. */
        boolean trace(Cloister house, int weather, int sleeper, int struck, int gong) {
            minutes = 0;
            doubters = 0;
            monks = 0;
            int at = gong;
            for (int step = 0; step < MOST_GONGS; step++) {
                if (at == sleeper || !house.canHear(at, weather)) {
                    return false;
                }
                minutes += house.late(at, weather);
                doubters += house.kind[at] == DOUBTER ? 1 : 0;
                monks++;
                at = house.hears[at];
                if (at == struck) {
                    return true;
                }
            }
            return false;
        }
    }

    /**
     * What would come if one gong were struck now, in a house of its own, so that nothing changes.
     * A doubter lets every second strike through, so d of them on a way let each 2^d-th through:
     * all is told by the ways alone, however long it would last.
     */
    private static final class Foretelling {
        private final Cloister house;
        private final Way way;
        private final Way ring;
        private int weather;
        /** The monk who sleeps, or NONE. */
        int sleeper;
        /** What was sought last: how well it does and the gongs that do it, or NONE. */
        int bestValue;
        int bestGong;
        int bestOther;

        Foretelling() {
            house = new Cloister();
            way = new Way();
            ring = new Way();
        }

        void suppose(Cloister asItIs, int weatherNow) {
            house.copyFrom(asItIs);
            weather = weatherNow;
            sleeper = NONE;
        }

        int minutesTo(int struck, int gong) {
            if (gong == struck) {
                return 0;
            }
            if (!way.trace(house, weather, sleeper, struck, gong)) {
                return NONE;
            }
            if (way.doubters == 0) {
                return way.minutes;
            }
            int round = roundMinutes(struck);
            return round == NONE ? NONE : way.minutes + ((1 << way.doubters) - 1) * round;
        }

        /** A ring with a doubter in it is quiet after one strike, so only the others go round for ever. */
        int roundMinutes(int struck) {
            boolean closes = ring.trace(house, weather, sleeper, struck, struck);
            return closes && ring.doubters == 0 ? ring.minutes : NONE;
        }

        int strikers(int struck) {
            int bits = 0;
            for (int gong = 0; gong < house.gongs; gong++) {
                if (minutesTo(struck, gong) != NONE) {
                    bits |= 1 << gong;
                }
            }
            return bits;
        }

        int lastMinute(int struck) {
            if (roundMinutes(struck) != NONE) {
                return NONE;
            }
            int last = 0;
            for (int gong = 0; gong < house.gongs; gong++) {
                last = Math.max(last, minutesTo(struck, gong));
            }
            return last;
        }

        int strokes(int struck, int gong, int m) {
            boolean closes = ring.trace(house, weather, sleeper, struck, struck);
            if (closes && ring.doubters == 0) {
                return NONE;
            }
            int own = closes ? strokesInRing(m, ring.doubters) : m;
            if (gong == struck) {
                return own;
            }
            return way.trace(house, weather, sleeper, struck, gong) ? own >> way.doubters : 0;
        }

        /** Each 2^doubters-th strike comes back as one more, and that one never does. */
        private static int strokesInRing(int m, int doubters) {
            int mask = (1 << doubters) - 1;
            int own = 0;
            for (int i = 0; i < m; i++) {
                own++;
                if ((own & mask) == 0) {
                    own++;
                }
            }
            return own;
        }

        int minutesBetween(int struck, int a, int b) {
            int toA = minutesTo(struck, a);
            int toB = minutesTo(struck, b);
            return toA == NONE || toB == NONE ? NONE : Math.abs(toA - toB);
        }

        int monksOnWay(int struck, int gong) {
            if (gong == struck) {
                return 0;
            }
            return minutesTo(struck, gong) == NONE ? NONE : way.monks;
        }

        void seekChange(int struck, int a, int b) {
            forgetBest();
            int least = minutesBetween(struck, a, b);
            for (int lesser = 0; lesser < house.gongs; lesser++) {
                for (int other = lesser + 1; other < house.gongs; other++) {
                    house.swapMonks(lesser, other);
                    int then = minutesBetween(struck, a, b);
                    house.swapMonks(lesser, other);
                    if (then != NONE && (least == NONE || then < least)) {
                        least = then;
                        setBest(then, lesser, other);
                    }
                }
            }
        }

        void seekOver(Cloister asItIs, int struck) {
            forgetBest();
            int most = Integer.bitCount(strikers(struck));
            for (int gong = 0; gong < asItIs.gongs; gong++) {
                if (asItIs.kind[gong] != DEAF) {
                    continue;
                }
                house.copyFrom(asItIs);
                house.hearOver(gong);
                int then = Integer.bitCount(strikers(struck));
                if (then > most) {
                    most = then;
                    setBest(then, gong, NONE);
                }
            }
        }

        private void forgetBest() {
            setBest(NONE, NONE, NONE);
        }

        private void setBest(int value, int gong, int other) {
            bestValue = value;
            bestGong = gong;
            bestOther = other;
        }
    }

    /** Gongs that were seen to have struck, or not to have. */
    private static final class Sightings {
        private final int[] gong;
        private final boolean[] struck;
        int size;

        Sightings() {
            gong = new int[MOST_SEEN];
            struck = new boolean[MOST_SEEN];
        }

        boolean note(int seenGong, boolean hasStruck) {
            if (size >= MOST_SEEN) {
                return false;
            }
            gong[size] = seenGong;
            struck[size] = hasStruck;
            size++;
            return true;
        }

        boolean agreeWith(int strikers) {
            for (int i = 0; i < size; i++) {
                if (struck[i] != ((strikers >> gong[i] & 1) != 0)) {
                    return false;
                }
            }
            return true;
        }
    }
}
