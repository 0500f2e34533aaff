/**
 * Laws stand on vine leaves, nailed up in the square, and hold until the goats have eaten them.
 * The promises that this class keeps are numbered in ../shared/DOC.md.
 */
public final class VineLaws {
    public static final int NONE = -1000000, BAD = -1000001, STATE = -1000002, FULL = -1000003;

    private static final int FINDINGS = -1000010;
    private static final int FAULTS = -1000100;
    private static final int NULL = 1, PLACE = 2, KIND = 3, SIZE = 4, STORE = 5;

    private static final int LEAF = 0, SWEET = 1, SALTED = 2, HAIRY = 3, BITTER = 4, THORNY = 5;
    private static final int ASK_SIZE = 0, ASK_MARK = 1;

    private static final int MOST_ROWS = 8, MOST_ITEMS = 40;
    private static final int MOST_BYTES = 120;
    private static final int MOST_LEAVES = 7, MOST_GOATS = 4;
    private static final int MOST_ACTS = 24;
    private static final int MOST_NOTES = 16;
    private static final int TOP_HEIGHT = 9, TOP_TASTE = 19, TOP_HUNGER = 99, TOP_HOUR = 999;
    private static final int FAR = 60, NEAR = 30, ROW_HOURS = 12;

    private final Row[] rows = new Row[MOST_ROWS];
    private final Tape tape = new Tape();
    private final Past past = new Past();
    private final Notes notes = new Notes();
    private final Square now = new Square();
    private final Square trial = new Square();
    private final Square firstImage = new Square();
    private final Square secondImage = new Square();
    private int finding;
    private int latestFault;

    public VineLaws() {
        for (int i = 0; i < rows.length; i++) {
            rows[i] = new Row();
        }
    }

    // ---- rows

    public int row(int row, int lane, int n) {
        Row made = rowAt(row);
        if (made == null || !isWithin(lane, 0, 2) || n > MOST_ITEMS) {
            return BAD;
        }
        if (n < 0) {
            return found(SIZE);
        }
        finding = 0;
        made.begin(lane, n);
        return n;
    }

    public int set(int row, int i, int v) {
        Row changed = rowAt(row);
        if (changed == null) {
            return BAD;
        }
        if (!changed.there) {
            return found(NULL);
        }
        if (!changed.hasPlaces(i, 1)) {
            return found(PLACE);
        }
        finding = 0;
        return changed.put(i, v);
    }

    public int copy(int a, int i, int b, int j, int n) {
        Row from = rowAt(a);
        Row to = rowAt(b);
        if (from == null || to == null) {
            return BAD;
        }
        if (!from.there || !to.there) {
            return found(NULL);
        }
        if (from.lane != to.lane) {
            return found(STORE);
        }
        if (!from.hasPlaces(i, n) || !to.hasPlaces(j, n)) {
            return found(PLACE);
        }
        finding = 0;
        System.arraycopy(from.items, i, to.items, j, n);
        return n;
    }

    public int drop(int row) {
        Row dropped = rowAt(row);
        if (dropped == null) {
            return BAD;
        }
        if (!dropped.there) {
            return found(NULL);
        }
        finding = 0;
        dropped.there = false;
        return dropped.length;
    }

    // ---- what is told

    public int feed(int letter) {
        if (!isWithin(letter, 0, 255)) {
            return BAD;
        }
        return tape.add(letter) ? tape.length : FULL;
    }

    public int square() {
        // Read aside, since a FAULT leaves the SQUARE that stands.
        boolean read = tape.readInto(trial);
        tape.length = 0;
        if (!read) {
            latestFault = tape.wrong;
            return FAULTS - tape.place;
        }
        now.take(trial);
        past.forget();
        return now.leafCount;
    }

    public int fault() {
        return latestFault;
    }

    public int undo() {
        return past.bringBack(now) ? past.kept : STATE;
    }

    // ---- what is done

    public int hours(int n) {
        if (!now.isThere()) {
            return STATE;
        }
        if (!isWithin(n, 1, 24)) {
            return BAD;
        }
        if (now.hour + n > TOP_HOUR) {
            return FULL;
        }
        int bitten = 0;
        for (int hour = 0; hour < n; hour++) {
            past.keep(now);
            bitten += now.passHour();
        }
        return bitten;
    }

    public int hang(int leaf, int height) {
        Leaf hung = now.leafAt(leaf);
        if (hung == null || !isWithin(height, 0, TOP_HEIGHT)) {
            return BAD;
        }
        if (hung.isVoid()) {
            return STATE;
        }
        past.keep(now);
        int before = hung.height;
        hung.height = height;
        return before;
    }

    public int salt(int leaf) {
        Leaf salted = now.leafAt(leaf);
        if (salted == null) {
            return BAD;
        }
        if (salted.taste >= TOP_TASTE) {
            return FULL;
        }
        past.keep(now);
        salted.taste++;
        return salted.taste;
    }

    public int transcribe(int leaf) {
        Leaf copied = now.leafAt(leaf);
        if (copied == null) {
            return BAD;
        }
        past.keep(now);
        int before = copied.left;
        copied.left = copied.size;
        return before;
    }

    public int drive(int goat, int n) {
        Goat driven = now.goatAt(goat);
        if (driven == null || !isWithin(n, 0, FAR)) {
            return BAD;
        }
        past.keep(now);
        int before = driven.away;
        driven.away = n;
        return before;
    }

    public int fodder(int goat) {
        Goat fed = now.goatAt(goat);
        if (fed == null) {
            return BAD;
        }
        past.keep(now);
        int before = fed.hunger;
        fed.hunger = 0;
        return before;
    }

    public int leaf(int leaf, int what) {
        Leaf told = now.leafAt(leaf);
        if (told == null) {
            return BAD;
        }
        switch (what) {
            case 0: return told.size;
            case 1: return told.height;
            case 2: return told.taste;
            case 3: return told.left;
            case 4: return told.liking(now.hour, now.salt);
            case 5: return told.standing();
            default: return BAD;
        }
    }

    public int goat(int goat, int what) {
        Goat told = now.goatAt(goat);
        if (told == null) {
            return BAD;
        }
        switch (what) {
            case 0: return told.hunger;
            case 1: return told.reach;
            case 2: return told.away;
            case 3:
                Leaf chosen = now.choiceOf(told);
                return chosen == null ? NONE : chosen.number;
            default: return BAD;
        }
    }

    // ---- foretold

    public int ahead(int leaf, int n) {
        Leaf told = trial.leafIn(now, leaf);
        if (told == null || !isWithin(n, 0, FAR)) {
            return BAD;
        }
        trial.passHours(n);
        return told.left;
    }

    public int force(int n) {
        if (!now.isThere()) {
            return STATE;
        }
        if (!isWithin(n, 0, FAR)) {
            return BAD;
        }
        trial.take(now);
        trial.passHours(n);
        return trial.inForce();
    }

    public int emptied(int leaf) {
        Leaf told = trial.leafIn(now, leaf);
        if (told == null) {
            return BAD;
        }
        for (int hour = 0; hour <= FAR; hour++) {
            if (told.isVoid()) {
                return hour;
            }
            trial.passHour();
        }
        return NONE;
    }

    public int eats(int goat, int n) {
        trial.take(now);
        Goat told = trial.goatAt(goat);
        if (told == null || !isWithin(n, 0, FAR)) {
            return BAD;
        }
        trial.passHours(n);
        return told.eaten;
    }

    public int guilt(int leaf, int n) {
        Leaf told = trial.leafIn(now, leaf);
        if (told == null || !isWithin(n, 1, FAR)) {
            return BAD;
        }
        trial.passHours(n);
        return told.biters;
    }

    public int gap(int leaves) {
        if (!now.isThere()) {
            return STATE;
        }
        if (!now.hasLeaves(leaves)) {
            return BAD;
        }
        trial.take(now);
        for (int hour = 0; hour <= FAR; hour++) {
            if ((trial.inForce() & leaves) == 0) {
                return hour;
            }
            trial.passHour();
        }
        return NONE;
    }

    public int hangs(int leaves, int n, int what) {
        if (!now.isThere()) {
            return STATE;
        }
        if (!now.hasLeaves(leaves) || !isWithin(n, 1, NEAR) || !isWithin(what, 0, 1)) {
            return BAD;
        }
        int fewest = fewest(now.notVoid(), false, leaves, n);
        return what == 0 && fewest != NONE ? Integer.bitCount(fewest) : fewest;
    }

    public int drives(int leaves, int n, int what) {
        if (!now.isThere()) {
            return STATE;
        }
        if (!now.hasLeaves(leaves) || !isWithin(n, 1, NEAR) || !isWithin(what, 0, 1)) {
            return BAD;
        }
        int fewest = fewest((1 << now.goatCount) - 1, true, leaves, n);
        return what == 0 && fewest != NONE ? Integer.bitCount(fewest) : fewest;
    }

    public int harm(int n, int what) {
        if (!now.isThere()) {
            return STATE;
        }
        if (!isWithin(n, 1, FAR) || !isWithin(what, 0, 1)) {
            return BAD;
        }
        int worst = NONE;
        int most = NONE;
        for (int goat = 0; goat < now.goatCount; goat++) {
            trial.take(now);
            trial.driveOff(1 << goat, n);
            trial.passHours(n);
            int standing = Integer.bitCount(trial.inForce());
            if (standing > most) {
                worst = goat;
                most = standing;
            }
        }
        return what == 0 ? worst : most;
    }

    public int bait(int leaf, int n, int what) {
        if (now.leafAt(leaf) == null || !isWithin(n, 1, NEAR) || !isWithin(what, 0, 1)) {
            return BAD;
        }
        int best = NONE;
        int most = NONE;
        for (int other = 0; other < now.leafCount; other++) {
            int left = other == leaf ? NONE : leftByBait(leaf, other, n);
            if (left > most) {
                best = other;
                most = left;
            }
        }
        return what == 0 ? best : most;
    }

    public int safeHeight(int leaf, int n) {
        Leaf told = now.leafAt(leaf);
        if (told == null || !isWithin(n, 1, FAR)) {
            return BAD;
        }
        if (told.isVoid()) {
            return STATE;
        }
        for (int height = 0; height <= TOP_HEIGHT; height++) {
            Leaf hung = trial.leafIn(now, leaf);
            if (hung == null) {
                return BAD;
            }
            hung.height = height;
            trial.passHours(n);
            if (hung.biters == 0) {
                return height;
            }
        }
        return NONE;
    }

    public int who(int leaf, int which, int other, int row, int i, int n) {
        Row told = rowAt(row);
        if (now.leafAt(leaf) == null || now.leafAt(other) == null || told == null
                || !isWithin(which, 0, 2) || !isWithin(n, 1, ROW_HOURS)) {
            return BAD;
        }
        if (!told.there) {
            return found(NULL);
        }
        if (!told.hasPlaces(i, n)) {
            return found(PLACE);
        }
        finding = 0;
        int least = which == 0 ? SWEET : 0;
        int most = which == 0 ? THORNY : which == 1 ? TOP_HEIGHT : TOP_TASTE;
        int fitting = 0;
        for (int value = least; value <= most; value++) {
            Leaf changed = trial.leafIn(now, leaf);
            if (changed == null) {
                return BAD;
            }
            changed.become(which, value);
            if (trial.goesAs(other, told, i, n)) {
                fitting |= 1 << value;
            }
        }
        return fitting;
    }

    public int strayed(int leaf, int row, int i, int n) {
        Row told = rowAt(row);
        if (now.leafAt(leaf) == null || told == null || !isWithin(n, 1, ROW_HOURS)) {
            return BAD;
        }
        if (!told.there) {
            return found(NULL);
        }
        if (!told.hasPlaces(i, n)) {
            return found(PLACE);
        }
        finding = 0;
        trial.take(now);
        int fitting = trial.goesAs(leaf, told, i, n) ? 1 << MOST_GOATS : 0;
        for (int goat = 0; goat < now.goatCount; goat++) {
            trial.take(now);
            trial.driveOff(1 << goat, n);
            if (trial.goesAs(leaf, told, i, n)) {
                fitting |= 1 << goat;
            }
        }
        return fitting;
    }

    public int rivals(int what) {
        if (!now.isThere()) {
            return STATE;
        }
        if (!isWithin(what, 0, 1)) {
            return BAD;
        }
        int pairs = 0;
        int first = NONE;
        for (Leaf lesser : now.leaves) {
            for (Leaf greater : now.leaves) {
                if (lesser.number < greater.number && now.likesAlike(lesser, greater)) {
                    first = pairs == 0 ? 10 * lesser.number + greater.number : first;
                    pairs++;
                }
            }
        }
        return what == 0 ? pairs : first;
    }

    public long wind(int k, int p, int what) {
        if (!now.isThere()) {
            return STATE;
        }
        if (!isWithin(k, 0, MOST_LEAVES) || !isWithin(p, 0, 10) || !isWithin(what, 0, 1)) {
            return BAD;
        }
        int tearable = now.notVoid();
        int tearables = Integer.bitCount(tearable);
        long above = 0;
        for (int torn = 0; torn <= tearable; torn++) {
            if ((torn & ~tearable) == 0 && standingInWind(torn) >= k) {
                int tears = Integer.bitCount(torn);
                above += power(p, tears) * power(10 - p, tearables - tears);
            }
        }
        long below = power(10, tearables);
        long shared = commonDivisor(above, below);
        long told = what == 0 ? above : below;
        return shared > 1 ? told / shared : told;
    }

    public int drawn(int n, int seed, int what) {
        if (!now.isThere()) {
            return STATE;
        }
        if (!isWithin(n, 0, FAR) || !isWithin(seed, 1, 999999) || !isWithin(what, 0, 1)) {
            return BAD;
        }
        trial.take(now);
        long x = seed;
        for (int hour = 0; hour < n; hour++) {
            x = x * 16807 % 2147483647;
            trial.befall((int) x);
            trial.passHour();
        }
        return what == 0 ? trial.leftOfAll() : trial.voided;
    }

    public int image(int k) {
        Square kept = imageAt(k);
        if (kept == null) {
            return BAD;
        }
        if (!now.isThere()) {
            return STATE;
        }
        kept.take(now);
        return 1;
    }

    public int restore(int k) {
        Square kept = imageAt(k);
        if (kept == null) {
            return BAD;
        }
        if (!kept.isThere()) {
            return STATE;
        }
        now.take(kept);
        past.forget();
        return 1;
    }

    // ---- asked

    public int kind(int one) {
        Leaf told = now.leafAt(one);
        return told == null ? BAD : told.kind;
    }

    public int as(int one, int kind) {
        Leaf told = now.leafAt(one);
        if (told == null || !isWithin(kind, LEAF, THORNY)) {
            return BAD;
        }
        if (kind != LEAF && kind != told.kind && kind != broader(told.kind)) {
            return found(KIND);
        }
        finding = 0;
        return one;
    }

    public int ask(int one, int what) {
        Leaf asked = now.leafAt(one);
        if (asked == null || !isWithin(what, ASK_SIZE, ASK_MARK)) {
            return BAD;
        }
        notes.length = 0;
        return give(bodyOf(asked.kind, what), asked, notes, 0);
    }

    public int trace(int i) {
        return notes.at(i);
    }

    public int count(int what) {
        switch (what) {
            case 0: return rowsThere();
            case 1: return now.leafCount;
            case 2: return now.goatCount;
            case 3: return now.hour;
            case 4: return now.inForce();
            case 5: return now.leftOfAll();
            case 6: return past.kept;
            case 7: return tape.length;
            default: return BAD;
        }
    }

    public int status() {
        return finding;
    }

    // ---- helpers of the face

    private static boolean isWithin(int value, int least, int most) {
        return value >= least && value <= most;
    }

    private int found(int number) {
        finding = number;
        return FINDINGS - number;
    }

    private Row rowAt(int number) {
        return number >= 0 && number < rows.length ? rows[number] : null;
    }

    private int rowsThere() {
        int there = 0;
        for (Row row : rows) {
            there += row.there ? 1 : 0;
        }
        return there;
    }

    private Square imageAt(int number) {
        return number == 0 ? firstImage : number == 1 ? secondImage : null;
    }

    /** The least of the smallest sets, out of what is allowed, that keeps the told leaves in force; NONE. */
    private int fewest(int allowed, boolean driving, int told, int n) {
        for (int many = 0; many <= MOST_LEAVES; many++) {
            for (int chosen = 0; chosen <= allowed; chosen++) {
                if (Integer.bitCount(chosen) != many || (chosen & ~allowed) != 0) {
                    continue;
                }
                trial.take(now);
                if (driving) {
                    trial.driveOff(chosen, n);
                } else {
                    trial.hangOnTop(chosen);
                }
                if (trial.keepsInForce(told, n)) {
                    return chosen;
                }
            }
        }
        return NONE;
    }

    /** What is left of a leaf behind n hours, if another one tastes best; NONE, if there is no bait in that one. */
    private int leftByBait(int leaf, int other, int n) {
        trial.take(now);
        Leaf saved = trial.leafAt(leaf);
        Leaf lure = trial.leafAt(other);
        if (saved == null || lure == null || lure.isVoid()) {
            return NONE;
        }
        lure.taste = TOP_TASTE;
        trial.passHours(n);
        return saved.left;
    }

    private int standingInWind(int torn) {
        trial.take(now);
        trial.tear(torn);
        trial.passHour();
        return Integer.bitCount(trial.inForce());
    }

    private static long power(int base, int times) {
        long product = 1;
        for (int i = 0; i < times; i++) {
            product *= base;
        }
        return product;
    }

    private static long commonDivisor(long one, long other) {
        long greater = one;
        long lesser = other;
        // Euclid's steps on numbers up to ten millions are far fewer than a hundred.
        for (int step = 0; step < 100 && lesser != 0; step++) {
            long rest = greater % lesser;
            greater = lesser;
            lesser = rest;
        }
        return greater;
    }

    private static int broader(int kind) {
        switch (kind) {
            case SALTED:
            case HAIRY: return SWEET;
            case THORNY: return BITTER;
            default: return LEAF;
        }
    }

    /** The body that begins, if a leaf of a kind is asked: its own, else that of the nearest kind above. */
    private static int bodyOf(int kind, int what) {
        switch (kind) {
            case SWEET: return what == ASK_SIZE ? 11 : 21;
            case SALTED: return what == ASK_SIZE ? 12 : 24;
            case HAIRY: return what == ASK_SIZE ? 11 : 22;
            case BITTER: return what == ASK_SIZE ? 13 : 23;
            case THORNY: return what == ASK_SIZE ? 14 : 23;
            default: return what == ASK_SIZE ? 10 : 20;
        }
    }

    /** What a body gives; the bodies it asks are noted in the order in which they begin. */
    private static int give(int body, Leaf leaf, Notes notes, int depth) {
        // The longest chain is 12, 11, 24, 21, 20; deeper none can go.
        if (depth > MOST_NOTES) {
            return 0;
        }
        notes.add(body);
        int next = depth + 1;
        switch (body) {
            case 10: return leaf.size;
            case 11: return give(10, leaf, notes, next) + give(bodyOf(leaf.kind, ASK_MARK), leaf, notes, next);
            case 12: return -give(11, leaf, notes, next);
            case 13: return give(10, leaf, notes, next) - 100;
            case 14: return 2 * give(13, leaf, notes, next);
            case 20: return leaf.number;
            case 21: return give(20, leaf, notes, next) + leaf.left;
            case 22: return give(21, leaf, notes, next) - 1000;
            case 23: return give(20, leaf, notes, next) - give(bodyOf(leaf.kind, ASK_SIZE), leaf, notes, next);
            case 24: return 2 * give(21, leaf, notes, next);
            default: return 0;
        }
    }

    /** A row of bytes, shorts or ints, or the place where one is missing. */
    private static final class Row {
        private final int[] items = new int[MOST_ITEMS];
        private boolean there;
        private int lane;
        private int length;

        private Row() {
        }

        private void begin(int ofLane, int ofLength) {
            there = true;
            lane = ofLane;
            length = Math.max(0, Math.min(ofLength, items.length));
            for (int i = 0; i < items.length; i++) {
                items[i] = 0;
            }
        }

        private boolean hasPlaces(int from, int many) {
            return from >= 0 && many >= 0 && from <= length && many <= length - from;
        }

        private int at(int i) {
            return i >= 0 && i < items.length ? items[i] : 0;
        }

        private int put(int i, int value) {
            int narrowed = lane == 0 ? (byte) value : lane == 1 ? (short) value : value;
            if (i >= 0 && i < items.length) {
                items[i] = narrowed;
            }
            return narrowed;
        }
    }

    /** The numbers of the bodies that the latest ask began. */
    private static final class Notes {
        private final int[] numbers = new int[MOST_NOTES];
        private int length;

        private Notes() {
        }

        private void add(int number) {
            if (length >= 0 && length < numbers.length) {
                numbers[length] = number;
                length++;
            }
        }

        private int at(int i) {
            return i >= 0 && i < length && i < numbers.length ? numbers[i] : NONE;
        }
    }

    /** The squares as they stood ahead of the latest acts, in a ring. */
    private static final class Past {
        private final Square[] squares = new Square[MOST_ACTS];
        private int next;
        private int kept;

        private Past() {
            for (int i = 0; i < squares.length; i++) {
                squares[i] = new Square();
            }
        }

        private void forget() {
            kept = 0;
        }

        private void keep(Square square) {
            if (next < 0 || next >= squares.length) {
                return;
            }
            squares[next].take(square);
            next = next + 1 < squares.length ? next + 1 : 0;
            kept = Math.min(kept + 1, squares.length);
        }

        private boolean bringBack(Square into) {
            int latest = next > 0 ? next - 1 : squares.length - 1;
            if (kept <= 0 || latest < 0 || latest >= squares.length) {
                return false;
            }
            into.take(squares[latest]);
            next = latest;
            kept--;
            return true;
        }
    }

    /** A leaf, its law, and who bit it since the square was taken. */
    private static final class Leaf {
        private final int number;
        private int kind;
        private int size;
        private int height;
        private int taste;
        private int left;
        private int biters;

        private Leaf(int number) {
            this.number = number;
        }

        private void take(Leaf other) {
            kind = other.kind;
            size = other.size;
            height = other.height;
            taste = other.taste;
            left = other.left;
            biters = 0;
        }

        private boolean isVoid() {
            return left <= 0;
        }

        private boolean isInForce() {
            return left > 0 && 2 * left >= size;
        }

        private int standing() {
            return isVoid() ? 0 : isInForce() ? 2 : 1;
        }

        /** By how much it is liked in an hour; NONE, if not at all. */
        private int liking(int hour, int salt) {
            if (left <= 0 || kind == THORNY && hour % 2 != 0) {
                return NONE;
            }
            int liked = taste;
            if (kind == SALTED) {
                liked += salt;
            } else if (kind == BITTER || kind == THORNY) {
                liked -= 3;
            }
            return liked < 0 ? NONE : liked;
        }

        /** Bitten by a goat: how much that took. */
        private int loseBite(int goat) {
            int bite = Math.min(left, kind == SWEET || kind == SALTED ? 2 : 1);
            left -= bite;
            biters |= 1 << goat;
            return bite;
        }

        private void become(int which, int value) {
            if (which == 0) {
                kind = value;
            } else if (which == 1) {
                height = value;
            } else {
                taste = value;
            }
        }
    }

    /** A goat, and how much it ate since the square was taken. */
    private static final class Goat {
        private final int number;
        private int hunger;
        private int reach;
        private int away;
        private int eaten;

        private Goat(int number) {
            this.number = number;
        }

        private void take(Goat other) {
            hunger = other.hunger;
            reach = other.reach;
            away = other.away;
            eaten = 0;
        }

        private boolean isBiting() {
            return away <= 0 && hunger > 0;
        }

        private void swallow(int bite) {
            hunger = Math.max(0, hunger - bite);
            eaten += bite;
        }

        private void endHour(int grows) {
            hunger = Math.min(TOP_HUNGER, hunger + grows);
            away = Math.max(0, away - 1);
        }
    }

    /** The law, the leaves and the goats in an hour; without leaves it is no square. */
    private static final class Square {
        private final Leaf[] leaves = new Leaf[MOST_LEAVES];
        private final Goat[] goats = new Goat[MOST_GOATS];
        private int leafCount;
        private int goatCount;
        private int grows;
        private int salt;
        private int hour;
        private int voided;

        private Square() {
            for (int i = 0; i < leaves.length; i++) {
                leaves[i] = new Leaf(i);
            }
            for (int i = 0; i < goats.length; i++) {
                goats[i] = new Goat(i);
            }
        }

        private void take(Square other) {
            leafCount = other.leafCount;
            goatCount = other.goatCount;
            grows = other.grows;
            salt = other.salt;
            hour = other.hour;
            voided = 0;
            for (int i = 0; i < leaves.length && i < other.leaves.length; i++) {
                leaves[i].take(other.leaves[i]);
            }
            for (int i = 0; i < goats.length && i < other.goats.length; i++) {
                goats[i].take(other.goats[i]);
            }
        }

        /** Empties it; a place without a leaf has nothing left there, so nobody likes it. */
        private void clear() {
            leafCount = 0;
            goatCount = 0;
            hour = 0;
            for (Leaf leaf : leaves) {
                leaf.left = 0;
            }
            for (Goat goat : goats) {
                goat.away = 0;
            }
        }

        private boolean isThere() {
            return leafCount > 0;
        }

        private Leaf leafAt(int number) {
            return number >= 0 && number < leafCount && number < leaves.length ? leaves[number] : null;
        }

        private Goat goatAt(int number) {
            return number >= 0 && number < goatCount && number < goats.length ? goats[number] : null;
        }

        /** Becomes as another square is: its leaf of a number; null, if there is none. */
        private Leaf leafIn(Square other, int number) {
            take(other);
            return leafAt(number);
        }

        private boolean hasLeaves(int bits) {
            return bits >= 0 && bits < 1 << leafCount;
        }

        private int inForce() {
            int bits = 0;
            for (Leaf leaf : leaves) {
                bits |= leaf.isInForce() ? 1 << leaf.number : 0;
            }
            return bits;
        }

        private int notVoid() {
            int bits = 0;
            for (Leaf leaf : leaves) {
                bits |= leaf.isVoid() ? 0 : 1 << leaf.number;
            }
            return bits;
        }

        private int leftOfAll() {
            int sum = 0;
            for (Leaf leaf : leaves) {
                sum += leaf.left;
            }
            return sum;
        }

        private boolean likesAlike(Leaf one, Leaf other) {
            int liking = one.liking(hour, salt);
            return liking != NONE && liking == other.liking(hour, salt);
        }

        /** The leaf that a goat would bite now; null, if none. */
        private Leaf choiceOf(Goat goat) {
            if (!goat.isBiting()) {
                return null;
            }
            Leaf chosen = null;
            int most = NONE;
            for (Leaf leaf : leaves) {
                int liking = leaf.height <= goat.reach ? leaf.liking(hour, salt) : NONE;
                if (liking > most) {
                    chosen = leaf;
                    most = liking;
                }
            }
            return chosen;
        }

        private int letBite(Goat goat) {
            Leaf chosen = choiceOf(goat);
            if (chosen == null) {
                return 0;
            }
            int bite = chosen.loseBite(goat.number);
            goat.swallow(bite);
            voided += chosen.left <= 0 ? 1 : 0;
            return bite;
        }

        /** One hour: how much was bitten off in it. */
        private int passHour() {
            int bitten = 0;
            for (Goat goat : goats) {
                bitten += goat.number < goatCount ? letBite(goat) : 0;
            }
            for (Goat goat : goats) {
                goat.endHour(grows);
            }
            hour++;
            return bitten;
        }

        private void passHours(int n) {
            for (int i = 0; i < n; i++) {
                passHour();
            }
        }

        private boolean keepsInForce(int told, int n) {
            for (int i = 0; i < n; i++) {
                // Bites alone come ahead, so a law that is lost early is not in force later.
                if ((told & ~inForce()) != 0) {
                    return false;
                }
                passHour();
            }
            return (told & ~inForce()) == 0;
        }

        /** Whether a leaf has left, behind each of n hours, what a row tells from a place on. */
        private boolean goesAs(int number, Row row, int from, int n) {
            Leaf leaf = leafAt(number);
            if (leaf == null) {
                return false;
            }
            for (int i = 0; i < n; i++) {
                passHour();
                if (leaf.left != row.at(from + i)) {
                    return false;
                }
            }
            return true;
        }

        private void driveOff(int bits, int n) {
            for (Goat goat : goats) {
                if ((bits >> goat.number & 1) != 0) {
                    goat.away = n;
                }
            }
        }

        private void hangOnTop(int bits) {
            for (Leaf leaf : leaves) {
                if ((bits >> leaf.number & 1) != 0) {
                    leaf.height = TOP_HEIGHT;
                }
            }
        }

        private void tear(int bits) {
            for (Leaf leaf : leaves) {
                if ((bits >> leaf.number & 1) != 0) {
                    leaf.left /= 2;
                }
            }
        }

        /** What a draw brings ahead of an hour. */
        private void befall(int x) {
            Goat goat = x % 3 == 0 && goatCount > 0 ? goatAt(x % goatCount) : null;
            if (goat != null) {
                goat.away = 2;
            }
            Leaf leaf = x % 5 == 0 && leafCount > 0 ? leafAt(x % leafCount) : null;
            if (leaf != null) {
                leaf.left = leaf.size;
            }
        }
    }

    /** The bytes that were fed, and their reading as a square. */
    private static final class Tape {
        private static final int END = -1, FIGURES = -2, NO_TOKEN = -3;

        private final int[] bytes = new int[MOST_BYTES];
        private int length;
        private int place;
        private int behind;
        private int token;
        private int value;
        private int wrong;

        private Tape() {
        }

        private boolean add(int letter) {
            if (length < 0 || length >= bytes.length) {
                return false;
            }
            bytes[length] = letter;
            length++;
            return true;
        }

        /** Whether it is read without a fault; else wrong and place tell the first one. */
        private boolean readInto(Square square) {
            square.clear();
            wrong = 0;
            behind = 0;
            advance();
            takeSign('v');
            square.grows = takeNumber(0, 9);
            takeSign(',');
            square.salt = takeNumber(1, 9);
            takeSign(';');
            for (int i = 0; i <= MOST_LEAVES && wrong == 0 && (i == 0 || sortOf(token) != LEAF); i++) {
                readLeaf(square);
            }
            for (int i = 0; i <= MOST_GOATS && wrong == 0 && (i == 0 || token != END); i++) {
                readGoat(square);
            }
            return wrong == 0;
        }

        private void readLeaf(Square square) {
            int sort = sortOf(token);
            int number = square.leafCount;
            if (sort == LEAF) {
                wrong = 1;
                return;
            }
            if (number < 0 || number >= square.leaves.length) {
                wrong = 3;
                return;
            }
            Leaf leaf = square.leaves[number];
            advance();
            leaf.kind = sort;
            leaf.size = takeNumber(1, 20);
            leaf.left = leaf.size;
            takeSign(',');
            leaf.height = takeNumber(0, 9);
            takeSign(',');
            leaf.taste = takeNumber(0, 9);
            takeSign(';');
            square.leafCount++;
        }

        private void readGoat(Square square) {
            int number = square.goatCount;
            if (token != 'g') {
                wrong = 1;
                return;
            }
            if (number < 0 || number >= square.goats.length) {
                wrong = 3;
                return;
            }
            Goat goat = square.goats[number];
            advance();
            goat.hunger = takeNumber(0, 40);
            takeSign(',');
            goat.reach = takeNumber(0, 9);
            takeSign(';');
            square.goatCount++;
        }

        private static int sortOf(int letter) {
            switch (letter) {
                case 's': return SWEET;
                case 'a': return SALTED;
                case 'h': return HAIRY;
                case 'b': return BITTER;
                case 't': return THORNY;
                default: return LEAF;
            }
        }

        private void takeSign(int wanted) {
            if (wrong != 0) {
                return;
            }
            if (token != wanted) {
                wrong = 1;
                return;
            }
            advance();
        }

        private int takeNumber(int least, int most) {
            if (wrong != 0) {
                return 0;
            }
            if (token != FIGURES) {
                wrong = 1;
                return 0;
            }
            int number = value;
            if (number < least || number > most) {
                wrong = 2;
                return 0;
            }
            advance();
            return number;
        }

        /** Looks at the next token; one that no rule of the text wants is told by its byte alone. */
        private void advance() {
            place = behind;
            value = 0;
            int figures = 0;
            int letter = byteAt(place);
            for (int i = 0; i < MOST_BYTES && letter >= '0' && letter <= '9'; i++) {
                // Past the second figure it is no number any more, and its value could overflow.
                value = figures < 2 ? 10 * value + letter - '0' : value;
                figures++;
                letter = byteAt(place + figures);
            }
            if (figures > 0) {
                token = figures <= 2 ? FIGURES : NO_TOKEN;
                behind = place + figures;
            } else {
                token = letter;
                behind = letter == END ? place : place + 1;
            }
        }

        private int byteAt(int i) {
            return i >= 0 && i < length && i < bytes.length ? bytes[i] : END;
        }
    }
}
