/**
 * How a text is told by what it said before: the matches at each place of a text with a
 * dictionary in front of it, and the rows of pieces that go over the text, with their bits.
 *
 * <p>All rows of numbers are made with the object and used again, so no later call makes one.
 */
public final class MatchFinders {
    private static final int MOST_SPAN = 300;
    private static final int MOST_DEPTH = 64;
    private static final int MOST_TEXT = 300;
    private static final int MOST_DICTIONARY = 60;
    private static final int MOST_BYTE = 255;

    private static final int LEAST_LENGTH = 3;
    private static final int MOST_LENGTH = 40;
    /** FRONT's LENGTHS rise, so it has no more members than there are LENGTHS. */
    private static final int MOST_FRONT = MOST_LENGTH - LEAST_LENGTH + 1;

    private static final int FILL_OCTETS = 0;
    private static final int FILL_THREE = 1;
    private static final int FILL_ECHO = 2;

    private static final int AT_ONCE = 0;
    private static final int AT_ONCE_CHAINED = 1;
    private static final int LOOK_AHEAD = 2;
    private static final int FEWEST_BITS = 3;
    private static final int WAYS = 4;

    private static final int LITERAL_BITS = 9;
    private static final int MATCH_BITS = 2;
    private static final int REPEAT_BITS = 4;

    private static final int NO_SUCH = -1;
    private static final int OUTSIDE = -2;
    private static final int NO_ROOM = -4;

    private final Text text;
    private final Finder finder;
    private final Plan plan;
    private final Row[] rows;

    public MatchFinders(int span, int depth) {
        text = new Text();
        finder = new Finder(text, nearest(span, MOST_SPAN), nearest(depth, MOST_DEPTH));
        plan = new Plan();
        rows = new Row[WAYS];
        for (int way = 0; way < WAYS; way++) {
            rows[way] = new Row();
        }
    }

    public int add(int b) {
        if (b < 0 || b > MOST_BYTE) {
            return OUTSIDE;
        }
        if (text.size >= MOST_TEXT) {
            return NO_ROOM;
        }
        text.put(b);
        forgetRows();
        return text.size;
    }

    public int fill(int n, int seed, int how) {
        if (n < 1 || n > MOST_TEXT || how < FILL_OCTETS || how > FILL_ECHO) {
            return OUTSIDE;
        }
        if (n > MOST_TEXT - text.size) {
            return NO_ROOM;
        }
        int back = 1 + (seed >>> 27);
        int x = seed;
        for (int i = 0; i < n; i++) {
            x = x * 1103515245 + 12345;
            text.put(filling(x >>> 16, how, back));
        }
        forgetRows();
        return text.size;
    }

    public int clear() {
        int had = text.size;
        text.size = 0;
        forgetRows();
        return had;
    }

    public int dictionary() {
        text.becomeDictionary();
        forgetRows();
        return text.ahead;
    }

    public int size(int what) {
        if (what == 0) {
            return text.size;
        }
        return what == 1 ? text.ahead : OUTSIDE;
    }

    public int octet(int i) {
        return text.at(i);
    }

    // ---- matches

    public int longest(int place, int what) {
        if (!isPlace(place)) {
            return NO_SUCH;
        }
        if (what < 0 || what > 1) {
            return OUTSIDE;
        }
        finder.seekLongest(place);
        return what == 0 ? finder.length : finder.distance;
    }

    public int chained(int place, int what) {
        if (!isPlace(place)) {
            return NO_SUCH;
        }
        if (what < 0 || what > 1) {
            return OUTSIDE;
        }
        finder.seekChained(place);
        return what == 0 ? finder.length : finder.distance;
    }

    public int front(int place, int k, int what) {
        if (!isPlace(place)) {
            return NO_SUCH;
        }
        finder.gatherFront(place);
        if (k < -1 || k >= finder.frontCount) {
            return NO_SUCH;
        }
        if (what < 0 || what > 1) {
            return OUTSIDE;
        }
        if (k == -1) {
            return finder.frontCount;
        }
        return what == 0 ? finder.frontLengths[k] : finder.frontDistances[k];
    }

    // ---- pieces

    public int pieces(int way) {
        if (!isWay(way)) {
            return NO_SUCH;
        }
        return rowOf(way).count;
    }

    public int piece(int way, int i, int what) {
        if (!isWay(way)) {
            return NO_SUCH;
        }
        Row row = rowOf(way);
        if (i < 0 || i >= row.count) {
            return NO_SUCH;
        }
        switch (what) {
            case 0:
                return row.places[i];
            case 1:
                return row.lengths[i];
            case 2:
                return row.distances[i];
            default:
                return OUTSIDE;
        }
    }

    public int bits(int way, int what) {
        if (!isWay(way)) {
            return NO_SUCH;
        }
        if (what < 0 || what > 1) {
            return OUTSIDE;
        }
        Row row = rowOf(way);
        return what == 0 ? row.plainBits : row.bitsWithRepeats;
    }

    public int repeats(int way) {
        if (!isWay(way)) {
            return NO_SUCH;
        }
        return rowOf(way).repeatCount;
    }

    public int share(int way) throws ArithmeticException {
        if (!isWay(way)) {
            return NO_SUCH;
        }
        if (text.size <= 0) {
            throw new ArithmeticException("the text has no bytes");
        }
        return 1000 * rowOf(way).bitsWithRepeats / (8 * text.size);
    }

    private static int nearest(int value, int most) {
        return Math.max(1, Math.min(most, value));
    }

    /** G of the document. */
    private static int gammaBits(int x) {
        int bits = 1;
        for (int rest = x; rest > 1; rest >>= 1) {
            bits += 2;
        }
        return bits;
    }

    private boolean isPlace(int place) {
        return place >= 0 && place < text.size;
    }

    private static boolean isWay(int way) {
        return way >= 0 && way < WAYS;
    }

    private int filling(int z, int how, int back) {
        if (how == FILL_OCTETS) {
            return z % 256;
        }
        if (how == FILL_THREE) {
            return z % 3;
        }
        // The echo comes from THE TEXT alone, so a place in THE DICTIONARY does not count.
        int source = text.size - back;
        return z % 8 != 0 && source >= 0 ? text.at(source) : z % 4;
    }

    private void forgetRows() {
        for (int way = 0; way < WAYS; way++) {
            rows[way].told = false;
        }
    }

    /** The row of a way, told anew only if THE TEXT or THE DICTIONARY has changed since. */
    private Row rowOf(int way) {
        Row row = rows[way];
        if (row.told) {
            return row;
        }
        if (way == FEWEST_BITS) {
            plan.make(finder);
        }
        row.begin();
        int place = 0;
        while (place < text.size) {
            choose(way, place);
            boolean match = finder.length >= LEAST_LENGTH;
            int length = match ? finder.length : 1;
            row.put(place, length, match ? finder.distance : 0);
            place += length;
        }
        row.told = true;
        return row;
    }

    /** Leaves in the finder the match that the way takes at a place, or none for a LITERAL. */
    private void choose(int way, int place) {
        switch (way) {
            case AT_ONCE:
                finder.seekLongest(place);
                break;
            case AT_ONCE_CHAINED:
                finder.seekChained(place);
                break;
            case LOOK_AHEAD:
                finder.seekLookingAhead(place);
                break;
            default:
                finder.take(plan.lengths[place], plan.distances[place]);
                break;
        }
    }

    /** THE DICTIONARY and right behind it THE TEXT, in one row, so that distances reach over both. */
    private static final class Text {
        final int[] bytes = new int[MOST_DICTIONARY + MOST_TEXT];
        int ahead;
        int size;

        void put(int b) {
            if (size < MOST_TEXT) {
                bytes[ahead + size] = b;
                size++;
            }
        }

        void becomeDictionary() {
            int kept = Math.min(MOST_DICTIONARY, size);
            int from = ahead + size - kept;
            for (int i = 0; i < kept; i++) {
                bytes[i] = bytes[from + i];
            }
            ahead = kept;
            size = 0;
        }

        /** The byte at a place, from -1 back of THE DICTIONARY; NO_SUCH where none stands. */
        int at(int place) {
            return place >= -ahead && place < size ? bytes[ahead + place] : NO_SUCH;
        }

        int farthest(int place) {
            return ahead + place;
        }

        int mostLength(int place) {
            return Math.min(MOST_LENGTH, size - place);
        }

        /** How many bytes from a place on, at most so many, are each the one a distance before. */
        int reach(int place, int distance, int most) {
            int here = ahead + place;
            int there = here - distance;
            if (there < 0 || there >= here || here + most > bytes.length) {
                return 0;
            }
            int length = 0;
            while (length < most && bytes[here + length] == bytes[there + length]) {
                length++;
            }
            return length;
        }
    }

    /** Seeks matches and keeps what it found last; LENGTH and DISTANCE 0 mean that there is none. */
    private static final class Finder {
        final Text text;
        final int span;
        final int depth;
        final int[] frontLengths = new int[MOST_FRONT];
        final int[] frontDistances = new int[MOST_FRONT];
        int frontCount;
        int length;
        int distance;

        Finder(Text text, int span, int depth) {
            this.text = text;
            this.span = span;
            this.depth = depth;
        }

        void take(int newLength, int newDistance) {
            length = newLength;
            distance = newDistance;
        }

        void gatherFront(int place) {
            frontCount = 0;
            int most = text.mostLength(place);
            int farthest = Math.min(span, text.farthest(place));
            int best = LEAST_LENGTH - 1;
            // Behind a distance of the greatest length that may be, none can be greater.
            for (int d = 1; d <= farthest && best < most; d++) {
                int reach = text.reach(place, d, most);
                if (reach > best && frontCount < MOST_FRONT) {
                    frontLengths[frontCount] = reach;
                    frontDistances[frontCount] = d;
                    frontCount++;
                    best = reach;
                }
            }
        }

        /** THE LONGEST is the last of FRONT: the least distance of the greatest length. */
        void seekLongest(int place) {
            gatherFront(place);
            take(0, 0);
            if (frontCount > 0) {
                take(frontLengths[frontCount - 1], frontDistances[frontCount - 1]);
            }
        }

        void seekChained(int place) {
            take(0, 0);
            int most = text.mostLength(place);
            int farthest = Math.min(span, text.farthest(place));
            int seen = 0;
            for (int d = 1; d <= farthest && seen < depth; d++) {
                int reach = text.reach(place, d, most);
                if (reach >= LEAST_LENGTH) {
                    seen++;
                    if (reach > length) {
                        take(reach, d);
                    }
                }
            }
        }

        void seekLookingAhead(int place) {
            seekLongest(place + 1);
            int next = length;
            seekLongest(place);
            if (next > length) {
                take(0, 0);
            }
        }
    }

    /** For each place the first piece of the best row from there to the end, by PLAIN BITS. */
    private static final class Plan {
        final int[] costs = new int[MOST_TEXT + 1];
        final int[] lengths = new int[MOST_TEXT];
        final int[] distances = new int[MOST_TEXT];

        void make(Finder finder) {
            int size = finder.text.size;
            costs[size] = 0;
            for (int place = size - 1; place >= 0; place--) {
                costs[place] = LITERAL_BITS + costs[place + 1];
                lengths[place] = 1;
                distances[place] = 0;
                finder.gatherFront(place);
                weighMatches(place, finder);
            }
        }

        /**
         * FRONT is enough: it has for each length the least distance that reaches so far, and a
         * greater distance never has fewer bits. Lengths rise, so that of like costs the longer stays.
         */
        void weighMatches(int place, Finder finder) {
            int length = LEAST_LENGTH;
            for (int k = 0; k < finder.frontCount; k++) {
                int distance = finder.frontDistances[k];
                int distanceBits = MATCH_BITS + gammaBits(distance);
                for (; length <= finder.frontLengths[k]; length++) {
                    int cost = distanceBits + gammaBits(length - 2) + costs[place + length];
                    if (cost <= costs[place]) {
                        costs[place] = cost;
                        lengths[place] = length;
                        distances[place] = distance;
                    }
                }
            }
        }
    }

    /** A row of pieces and its bits, which are counted while it is told. */
    private static final class Row {
        final int[] places = new int[MOST_TEXT];
        final int[] lengths = new int[MOST_TEXT];
        final int[] distances = new int[MOST_TEXT];
        int count;
        int plainBits;
        int bitsWithRepeats;
        int repeatCount;
        boolean told;
        // The last three unlike distances; 0, which no match has, stands for none.
        int latest;
        int second;
        int third;

        void begin() {
            count = 0;
            plainBits = 0;
            bitsWithRepeats = 0;
            repeatCount = 0;
            latest = 0;
            second = 0;
            third = 0;
        }

        void put(int place, int length, int distance) {
            if (count >= MOST_TEXT) {
                return;
            }
            places[count] = place;
            lengths[count] = length;
            distances[count] = distance;
            count++;
            if (distance == 0) {
                plainBits += LITERAL_BITS;
                bitsWithRepeats += LITERAL_BITS;
            } else {
                countMatch(length, distance);
            }
        }

        void countMatch(int length, int distance) {
            int lengthBits = gammaBits(length - 2);
            int plain = MATCH_BITS + lengthBits + gammaBits(distance);
            plainBits += plain;
            if (distance == latest || distance == second || distance == third) {
                repeatCount++;
                bitsWithRepeats += REPEAT_BITS + lengthBits;
            } else {
                bitsWithRepeats += plain;
            }
            remember(distance);
        }

        void remember(int distance) {
            if (distance == latest) {
                return;
            }
            if (distance != second) {
                third = second;
            }
            second = latest;
            latest = distance;
        }
    }
}
