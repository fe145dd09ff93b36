/**
 * Steers a tunnel of rings that taper and are turned by keys. What every call answers is told,
 * promise by promise, in the project's document; README.md says how to use the class.
 */
public final class RingSteer {
    public static final int BAD = -1, STATE = -2, FULL = -3, NONE = -9;
    public static final int NO = -1000000;

    private static final int KEYS = 8;
    private static final int MOST_RINGS = 12;
    private static final int MOST_AHEAD = 5;
    // A plan may look past the twelfth ring, so the wishes reach that far too.
    private static final int MOST_PLACES = MOST_RINGS + MOST_AHEAD;
    private static final int MOST_WISH = 99;
    private static final int MOST_BAR = 3;
    private static final int MOST_WAY = 2;
    private static final int MOST_TAIL = 20;
    private static final int LEAST_TAPER = 1;
    private static final int MOST_TAPER = 3;
    private static final int MOST_LETTERS = 120;
    private static final int MOST_LETTER = 255;
    private static final int MOST_UNDOS = 12;
    private static final int MOST_SEEN = 4;
    private static final int MOST_SIGHT = 9999;
    private static final int MOST_SLIPS = 8;
    private static final int SLIP_PARTS = 10;
    private static final int MOST_COST_ASKED = 9999;
    private static final int IMAGES = 2;

    private static final int RULE_BAR = 0;
    private static final int RULE_WAY = 1;
    private static final int RULE_TAIL = 2;

    private static final int[] LEAN_X = {2, 1, 0, -1, -2, -1, 0, 1};
    private static final int[] LEAN_Y = {0, 1, 2, 1, 0, -1, -2, -1};

    private final Line line = new Line();
    private final Line draft = new Line();
    private final Line[] images = new Line[IMAGES];
    private final boolean[] kept = new boolean[IMAGES];
    private final Script script = new Script();
    private final Deeds deeds = new Deeds();
    private final Search search = new Search();
    private final Spot probe = new Spot();
    private final int[] seenX = new int[MOST_SEEN];
    private final int[] seenY = new int[MOST_SEEN];
    private int seen = 0;

    public RingSteer() {
        for (int i = 0; i < IMAGES; i++) {
            images[i] = new Line();
        }
    }

    // ---- what is told

    public int type(int letter) {
        if (!isWithin(letter, 0, MOST_LETTER)) {
            return BAD;
        }
        return script.add(letter) ? script.length : FULL;
    }

    public int clear() {
        int had = script.length;
        script.length = 0;
        return had;
    }

    public int tunnel() {
        // The text is read into a draft, so that a fault leaves all as it was.
        draft.reset();
        int items = script.readInto(draft);
        if (items < 0) {
            return items;
        }
        line.copy(draft);
        lineChanged();
        script.length = 0;
        deeds.size = 0;
        seen = 0;
        for (int i = 0; i < IMAGES; i++) {
            kept[i] = false;
        }
        return items;
    }

    // ---- what is done

    public int builds(int key) {
        if (!isKey(key)) {
            return BAD;
        }
        if (line.rings >= MOST_RINGS) {
            return FULL;
        }
        if (!line.mayFollow(line.last(), key)) {
            return STATE;
        }
        buildKnown(key);
        return line.cost(line.last());
    }

    public int follows(int h) {
        if (!isWithin(h, 1, MOST_AHEAD)) {
            return BAD;
        }
        if (line.rings >= MOST_RINGS) {
            return FULL;
        }
        search.look(line, h);
        if (search.rows == 0) {
            return STATE;
        }
        int key = search.firstRow[0];
        buildKnown(key);
        return key;
    }

    public int wishes(int place, int x, int y) {
        if (!isWithin(place, 1, MOST_PLACES) || !isWish(x) || !isWish(y)) {
            return BAD;
        }
        if (line.wishX[place] == x && line.wishY[place] == y) {
            return STATE;
        }
        deeds.add(Deeds.WISHED, place, line.wishX[place], line.wishY[place]);
        line.setWish(place, x, y);
        lineChanged();
        return 1;
    }

    public int rules(int what, int v) {
        if (!isRule(what, v)) {
            return BAD;
        }
        int was = line.rule(what);
        if (was == v) {
            return STATE;
        }
        deeds.add(Deeds.RULED, what, was, 0);
        line.setRule(what, v);
        lineChanged();
        return was;
    }

    public int undo() {
        if (deeds.size <= 0) {
            return STATE;
        }
        deeds.takeBack(line);
        lineChanged();
        return deeds.size;
    }

    // ---- rings

    public int ring(int i, int what) {
        if (!isWithin(i, 0, line.rings)) {
            return NO;
        }
        Spot spot = line.spots[i];
        switch (what) {
            case 0: return spot.key;
            case 1: return spot.slopeX;
            case 2: return spot.slopeY;
            case 3: return spot.placeX;
            case 4: return spot.placeY;
            case 5: return line.cost(spot);
            default: return NO;
        }
    }

    public int wish(int place, int what) {
        if (!isWithin(place, 0, MOST_PLACES) || !isWithin(what, 0, 1)) {
            return NO;
        }
        return what == 0 ? line.wishX[place] : line.wishY[place];
    }

    public int worst(int k) {
        if (k < 0) {
            return BAD;
        }
        for (int i = 1; i <= line.rings; i++) {
            if (line.worseThan(i) == k) {
                return i;
            }
        }
        return NONE;
    }

    // ---- what is next

    public int plan(int h, int k) {
        if (!isWithin(h, 1, MOST_AHEAD) || k < -2) {
            return BAD;
        }
        if (k >= h) {
            return NONE;
        }
        search.look(line, h);
        if (search.rows == 0) {
            return NONE;
        }
        if (k == -1) {
            return search.least;
        }
        return k == -2 ? search.rows : search.firstRow[k];
    }

    public int trying(int key) {
        if (!isKey(key)) {
            return BAD;
        }
        if (!line.mayFollow(line.last(), key)) {
            return STATE;
        }
        probe.copy(line.last());
        probe.advance(key, line.taper);
        return line.cost(probe);
    }

    // ---- which key, odds

    public int sees(int x, int y) {
        if (!isWithin(x, -MOST_SIGHT, MOST_SIGHT) || !isWithin(y, -MOST_SIGHT, MOST_SIGHT)) {
            return BAD;
        }
        if (seen >= MOST_SEEN) {
            return FULL;
        }
        seenX[seen] = x;
        seenY[seen] = y;
        seen++;
        return seen;
    }

    public int forget() {
        int had = seen;
        seen = 0;
        return had;
    }

    public int unseen(int i) {
        if (!isWithin(i, 1, line.rings)) {
            return BAD;
        }
        int bits = 0;
        for (int key = 0; key < KEYS; key++) {
            if (key != line.spots[i].key && explainsAllSeen(i, key)) {
                bits |= 1 << key;
            }
        }
        return bits;
    }

    public int odds(int x, int c, int what) {
        if (!isWithin(x, 0, SLIP_PARTS) || !isWithin(c, 0, MOST_COST_ASKED) || !isWithin(what, 0, 1)) {
            return BAD;
        }
        int slips = Math.min(line.rings, MOST_SLIPS);
        int upper = nearParts(slips, x, c);
        int lower = power(SLIP_PARTS, slips);
        int common = commonDivisor(lower, upper);
        int part = what == 0 ? upper : lower;
        return common > 1 ? part / common : part;
    }

    // ---- images

    public int keep(int image) {
        if (!isWithin(image, 0, IMAGES - 1)) {
            return BAD;
        }
        images[image].copy(line);
        kept[image] = true;
        return line.rings;
    }

    public int back(int image) {
        if (!isWithin(image, 0, IMAGES - 1)) {
            return BAD;
        }
        if (!kept[image]) {
            return STATE;
        }
        line.copy(images[image]);
        lineChanged();
        deeds.size = 0;
        return line.rings;
    }

    public int count(int what) {
        switch (what) {
            case 0: return line.rings;
            case 1: return line.taper;
            case 2: return line.bar;
            case 3: return line.way;
            case 4: return line.tail;
            case 5: return line.nextKeys();
            case 6: return line.wholeCost();
            case 7: return seen;
            case 8: return script.length;
            case 9: return deeds.size;
            default: return BAD;
        }
    }

    /** What was found ahead holds only for the line as it was. */
    private void lineChanged() {
        search.ahead = 0;
    }

    private void buildKnown(int key) {
        deeds.add(Deeds.BUILT, 0, 0, 0);
        line.build(key);
        lineChanged();
    }

    /** Whether the line would end at every place that was seen, if ring i had this key. */
    private boolean explainsAllSeen(int i, int key) {
        Spot last = line.last();
        int own = line.spots[i].key;
        // A ring's lean is in the slope behind it and behind every later ring.
        int times = line.taper * (line.rings - i + 1);
        int x = last.placeX + times * (leanX(key) - leanX(own));
        int y = last.placeY + times * (leanY(key) - leanY(own));
        for (int s = 0; s < seen && s < MOST_SEEN; s++) {
            if (seenX[s] != x || seenY[s] != y) {
                return false;
            }
        }
        return true;
    }

    /** How many of the 10 to the slips equal parts leave the last ring's cost at c or less. */
    private int nearParts(int slips, int x, int c) {
        int parts = 0;
        for (int mask = 0; mask < 1 << slips; mask++) {
            slip(mask, slips);
            if (line.cost(probe) <= c) {
                int moved = Integer.bitCount(mask);
                parts += power(x, moved) * power(SLIP_PARTS - x, slips - moved);
            }
        }
        return parts;
    }

    /** Walks the last rings anew, each with the next key where the mask says so. */
    private void slip(int mask, int slips) {
        int from = line.rings - slips;
        if (from < 0) {
            return;
        }
        probe.copy(line.spots[from]);
        for (int i = from + 1; i <= line.rings; i++) {
            int moved = mask >> (i - from - 1) & 1;
            probe.advance((line.spots[i].key + moved) % KEYS, line.taper);
        }
    }

    private static int power(int base, int times) {
        int product = 1;
        for (int i = 0; i < times; i++) {
            product *= base;
        }
        return product;
    }

    private static int commonDivisor(int a, int b) {
        int greater = a;
        int rest = b;
        // Euclid's steps on numbers up to a hundred million are fewer than forty.
        for (int step = 0; step < 64 && rest != 0; step++) {
            int next = greater % rest;
            greater = rest;
            rest = next;
        }
        return greater;
    }

    private static boolean isWithin(int n, int least, int most) {
        return n >= least && n <= most;
    }

    private static boolean isKey(int key) {
        return isWithin(key, 0, KEYS - 1);
    }

    private static boolean isWish(int n) {
        return isWithin(n, -MOST_WISH, MOST_WISH);
    }

    private static boolean isRule(int what, int v) {
        switch (what) {
            case RULE_BAR: return isWithin(v, 0, MOST_BAR);
            case RULE_WAY: return isWithin(v, 0, MOST_WAY);
            case RULE_TAIL: return isWithin(v, 0, MOST_TAIL);
            default: return false;
        }
    }

    private static int leanX(int key) {
        return key >= 0 && key < KEYS ? LEAN_X[key] : 0;
    }

    private static int leanY(int key) {
        return key >= 0 && key < KEYS ? LEAN_Y[key] : 0;
    }

    /** What the line is like behind one ring. */
    private static final class Spot {
        int ringNumber = 0;
        int key = NONE;
        int slopeX = 0;
        int slopeY = 0;
        int placeX = 0;
        int placeY = 0;

        void copy(Spot other) {
            ringNumber = other.ringNumber;
            key = other.key;
            slopeX = other.slopeX;
            slopeY = other.slopeY;
            placeX = other.placeX;
            placeY = other.placeY;
        }

        void advance(int nextKey, int taper) {
            ringNumber++;
            key = nextKey;
            slopeX += taper * leanX(nextKey);
            slopeY += taper * leanY(nextKey);
            placeX += slopeX;
            placeY += slopeY;
        }
    }

    /** The rings that are built, the wishes and the rules: all that an image keeps. */
    private static final class Line {
        final Spot[] spots = new Spot[MOST_RINGS + 1];
        final int[] wishX = new int[MOST_PLACES + 1];
        final int[] wishY = new int[MOST_PLACES + 1];
        int rings = 0;
        int taper = 1;
        int bar = 1;
        int way = 0;
        int tail = 0;

        Line() {
            for (int i = 0; i <= MOST_RINGS; i++) {
                spots[i] = new Spot();
            }
        }

        void reset() {
            rings = 0;
            taper = 1;
            bar = 1;
            way = 0;
            tail = 0;
            for (int place = 0; place <= MOST_PLACES; place++) {
                wishX[place] = 0;
                wishY[place] = 0;
            }
        }

        void copy(Line other) {
            rings = other.rings;
            taper = other.taper;
            bar = other.bar;
            way = other.way;
            tail = other.tail;
            for (int i = 0; i <= rings && i <= MOST_RINGS; i++) {
                spots[i].copy(other.spots[i]);
            }
            for (int place = 0; place <= MOST_PLACES; place++) {
                wishX[place] = other.wishX[place];
                wishY[place] = other.wishY[place];
            }
        }

        Spot last() {
            return spots[isWithin(rings, 0, MOST_RINGS) ? rings : 0];
        }

        void build(int key) {
            if (rings >= MOST_RINGS) {
                return;
            }
            Spot next = spots[rings + 1];
            next.copy(last());
            next.advance(key, taper);
            rings++;
        }

        void dropLast() {
            if (rings > 0) {
                rings--;
            }
        }

        void setWish(int place, int x, int y) {
            if (isWithin(place, 1, MOST_PLACES)) {
                wishX[place] = x;
                wishY[place] = y;
            }
        }

        int rule(int what) {
            switch (what) {
                case RULE_BAR: return bar;
                case RULE_WAY: return way;
                default: return tail;
            }
        }

        void setRule(int what, int v) {
            switch (what) {
                case RULE_BAR: bar = v; break;
                case RULE_WAY: way = v; break;
                default: tail = v; break;
            }
        }

        boolean mayFollow(Spot before, int key) {
            return !isBarred(before.key, key) && hasRoom(before, key);
        }

        private boolean isBarred(int keyBefore, int key) {
            if (keyBefore == NONE) {
                return false;
            }
            int apart = Math.floorMod(key - keyBefore, KEYS);
            switch (bar) {
                case 1: return apart == 0;
                case 2: return apart == 0 || apart == 4;
                case 3: return apart == 0 || apart == 1 || apart == KEYS - 1;
                default: return false;
            }
        }

        private boolean hasRoom(Spot before, int key) {
            if (tail == 0) {
                return true;
            }
            int place = before.ringNumber + 1;
            if (!isWithin(place, 1, MOST_PLACES)) {
                return false;
            }
            int aimX = wishX[place] - wishX[place - 1];
            int aimY = wishY[place] - wishY[place - 1];
            return Math.abs(before.slopeX + taper * leanX(key) - aimX) <= tail
                && Math.abs(before.slopeY + taper * leanY(key) - aimY) <= tail;
        }

        int cost(Spot spot) {
            int place = spot.ringNumber;
            if (!isWithin(place, 0, MOST_PLACES)) {
                return 0;
            }
            int dx = Math.abs(spot.placeX - wishX[place]);
            int dy = Math.abs(spot.placeY - wishY[place]);
            switch (way) {
                case 1: return Math.max(dx, dy);
                case 2: return dx * dx + dy * dy;
                default: return dx + dy;
            }
        }

        int wholeCost() {
            int sum = 0;
            for (int i = 1; i <= rings && i <= MOST_RINGS; i++) {
                sum += cost(spots[i]);
            }
            return sum;
        }

        int nextKeys() {
            int bits = 0;
            for (int key = 0; key < KEYS; key++) {
                if (mayFollow(last(), key)) {
                    bits |= 1 << key;
                }
            }
            return bits;
        }

        /** How many rings stand ahead of ring i when the worst stand first. */
        int worseThan(int i) {
            if (!isWithin(i, 1, rings)) {
                return 0;
            }
            int own = cost(spots[i]);
            int worse = 0;
            for (int other = 1; other <= rings && other <= MOST_RINGS; other++) {
                int its = cost(spots[other]);
                if (its > own || its == own && other < i) {
                    worse++;
                }
            }
            return worse;
        }
    }

    /** Looks for the cheapest rows of keys ahead, and knows what it found until the line changes. */
    private static final class Search {
        final Spot[] spots = new Spot[MOST_AHEAD + 1];
        final int[] firstRow = new int[MOST_AHEAD];
        // How far ahead was looked; 0 when what was found no longer holds.
        int ahead = 0;
        int rows = 0;
        int least = 0;

        Search() {
            for (int i = 0; i <= MOST_AHEAD; i++) {
                spots[i] = new Spot();
            }
        }

        void look(Line line, int h) {
            if (ahead == h) {
                return;
            }
            ahead = Math.min(h, MOST_AHEAD);
            rows = 0;
            least = 0;
            spots[0].copy(line.last());
            extend(this, line, 0, 0);
        }

        private static void extend(Search search, Line line, int depth, int sum) {
            if (depth < 0 || depth >= search.ahead || depth >= MOST_AHEAD) {
                search.note(sum);
                return;
            }
            Spot here = search.spots[depth];
            Spot next = search.spots[depth + 1];
            for (int key = 0; key < KEYS; key++) {
                if (line.mayFollow(here, key)) {
                    next.copy(here);
                    next.advance(key, line.taper);
                    int longer = sum + line.cost(next);
                    // No ring costs less than nothing, so a row that is dearer already stays so.
                    if (search.rows == 0 || longer <= search.least) {
                        extend(search, line, depth + 1, longer);
                    }
                }
            }
        }

        private void note(int sum) {
            if (rows > 0 && sum == least) {
                rows++;
                return;
            }
            rows = 1;
            least = sum;
            for (int i = 0; i < ahead && i < MOST_AHEAD; i++) {
                firstRow[i] = spots[i + 1].key;
            }
        }
    }

    /** What was done last and how it was before; the oldest deed is lost when there are too many. */
    private static final class Deeds {
        static final int BUILT = 0;
        static final int WISHED = 1;
        static final int RULED = 2;

        final int[] kinds = new int[MOST_UNDOS];
        final int[] which = new int[MOST_UNDOS];
        final int[] wasFirst = new int[MOST_UNDOS];
        final int[] wasSecond = new int[MOST_UNDOS];
        int size = 0;

        void add(int kind, int whichOne, int first, int second) {
            if (size >= MOST_UNDOS) {
                loseOldest();
            }
            kinds[size] = kind;
            which[size] = whichOne;
            wasFirst[size] = first;
            wasSecond[size] = second;
            size++;
        }

        private void loseOldest() {
            for (int i = 1; i < MOST_UNDOS; i++) {
                kinds[i - 1] = kinds[i];
                which[i - 1] = which[i];
                wasFirst[i - 1] = wasFirst[i];
                wasSecond[i - 1] = wasSecond[i];
            }
            size = MOST_UNDOS - 1;
        }

        void takeBack(Line line) {
            if (!isWithin(size, 1, MOST_UNDOS)) {
                return;
            }
            size--;
            switch (kinds[size]) {
                case BUILT: line.dropLast(); break;
                case WISHED: line.setWish(which[size], wasFirst[size], wasSecond[size]); break;
                default: line.setRule(which[size], wasFirst[size]); break;
            }
        }
    }

    /** The text, and the reading of it token by token. */
    private static final class Script {
        private static final int BLANK = ' ';
        // Kinds of tokens that are no single letter; those are their own kind.
        private static final int END = -1;
        private static final int NUMBER = -2;
        private static final int WRONG = -3;
        private static final int FAULT_BASE = -10;

        final int[] letters = new int[MOST_LETTERS];
        int length = 0;
        // The token that is looked at: its first letter's place, what it is, and what is behind it.
        private int start = 0;
        private int kind = END;
        private int number = 0;
        private int behind = 0;
        private int wishesTold = 0;
        private boolean taperTold = false;
        private final boolean[] ruleTold = new boolean[RULE_TAIL + 1];

        boolean add(int letter) {
            if (!isWithin(length, 0, MOST_LETTERS - 1)) {
                return false;
            }
            letters[length] = letter;
            length++;
            return true;
        }

        /** How many items were read into a line that is as at first; or -10 less the fault. */
        int readInto(Line line) {
            behind = 0;
            wishesTold = 0;
            taperTold = false;
            for (int i = 0; i <= RULE_TAIL; i++) {
                ruleTold[i] = false;
            }
            int items = 0;
            toNextToken();
            while (kind != END && items <= MOST_LETTERS) {
                if (!readItem(line) || kind != ';') {
                    return FAULT_BASE - start;
                }
                items++;
                toNextToken();
            }
            return items;
        }

        /** Reads up to an item's end; if it answers false, the token looked at can't stand there. */
        private boolean readItem(Line line) {
            switch (kind) {
                case 't': return readTaper(line);
                case 'b': return readRule(line, RULE_BAR);
                case 'j': return readRule(line, RULE_WAY);
                case 'm': return readRule(line, RULE_TAIL);
                case 'w': return readWish(line);
                case 'k': return readKey(line);
                default: return false;
            }
        }

        private boolean readTaper(Line line) {
            if (taperTold || line.rings > 0) {
                return false;
            }
            taperTold = true;
            toNextToken();
            if (kind != NUMBER || !isWithin(number, LEAST_TAPER, MOST_TAPER)) {
                return false;
            }
            line.taper = number;
            toNextToken();
            return true;
        }

        private boolean readRule(Line line, int what) {
            if (ruleTold[what] || line.rings > 0) {
                return false;
            }
            ruleTold[what] = true;
            toNextToken();
            if (kind != NUMBER || !isRule(what, number)) {
                return false;
            }
            line.setRule(what, number);
            toNextToken();
            return true;
        }

        private boolean readWish(Line line) {
            if (wishesTold >= MOST_PLACES) {
                return false;
            }
            toNextToken();
            if (!readSigned()) {
                return false;
            }
            int x = number;
            toNextToken();
            if (!readSigned()) {
                return false;
            }
            wishesTold++;
            line.setWish(wishesTold, x, number);
            toNextToken();
            return true;
        }

        /** Leaves the last token of a number, perhaps with - ahead, as the one looked at. */
        private boolean readSigned() {
            boolean negative = kind == '-';
            if (negative) {
                toNextToken();
            }
            if (kind != NUMBER) {
                return false;
            }
            if (negative) {
                number = -number;
            }
            return true;
        }

        private boolean readKey(Line line) {
            if (line.rings >= MOST_RINGS) {
                return false;
            }
            toNextToken();
            if (kind != NUMBER || !isKey(number) || !line.mayFollow(line.last(), number)) {
                return false;
            }
            line.build(number);
            toNextToken();
            return true;
        }

        private void toNextToken() {
            start = behind;
            while (start < length && kindAt(start) == BLANK) {
                start++;
            }
            behind = start;
            number = 0;
            while (behind < length && digitAt(behind) >= 0) {
                number = number * 10 + digitAt(behind);
                behind++;
            }
            if (behind > start) {
                kind = isNumber(number, behind - start) ? NUMBER : WRONG;
                return;
            }
            kind = kindAt(start);
            if (kind != END) {
                behind++;
            }
        }

        private int kindAt(int i) {
            if (i < 0 || i >= length || i >= MOST_LETTERS) {
                return END;
            }
            int letter = letters[i];
            switch (letter) {
                case 't': case 'b': case 'j': case 'm': case 'w': case 'k': case '-': case ';': case BLANK:
                    return letter;
                default:
                    return WRONG;
            }
        }

        private int digitAt(int i) {
            if (i < 0 || i >= length || i >= MOST_LETTERS) {
                return NONE;
            }
            int letter = letters[i];
            return letter >= '0' && letter <= '9' ? letter - '0' : NONE;
        }

        /** By its digits: at most 99, and no 0 ahead of others. */
        private static boolean isNumber(int n, int digits) {
            return digits == 1 || digits == 2 && n >= 10;
        }
    }
}
