import java.util.Arrays;

/** Sheets of marks rubbed from a wall; ../shared/DOC.md tells what each call answers. */
public final class StoneSheets {
    public static final int BAD = -1000000001, NO = -1000000002, FULL = -1000000003, NONE = -1000000005, NOTHING = -1000000011, KIND = -1000000012, INDEX = -1000000013, SIZE = -1000000014;

    private static final int PLACES = 16, NOWHERE = 16, MARKS = 4;
    private static final int MOST_RUBBINGS = 9, MOST_RAW = 65535, MOST_SIZE = 8, MOST_TRUST = 99, FIRST_TRUST = 50;
    private static final int BOLD = 1, FAINT = 2, TWICE = 3, CRACKED = 4, MADE = 5, KINDS = 6;
    private static final int RAW_VALUE = 1, SIZE_VALUE = 2, TURNED_VALUE = 3, LAID_VALUE = 4, TRUST_VALUE = 5;
    private static final int MOST_TIDES = 9999, LASTING_TIDES = 300;
    private static final int GAIN = 0, FEE = 1, FINE = 2, KEYS = 3, PLAIN_GAIN = 3;
    private static final int MOST_TEXTS = 14, MOST_BYTES = 96, MOST_DIGITS = 4, MOST_OPEN = 8, FIRST_FAULT = -100;
    private static final int SHEETS = 4, MOST_SHEET_PLACES = 24, MISSING = -1, SHORTS = 0, FLOATS = 1, MOST_FLOAT = 99999;
    private static final int SLOTS = 5, MOST_WAITING = 60, MOST_CHECKED = 30;

    private final Laws laws = new Laws();
    private final Wall wall = new Wall(laws);
    private final Wall image = new Wall(laws);
    private final Wall thought = new Wall(laws);
    private final Reader reader = new Reader();
    private final Row[] rows = new Row[SHEETS];
    private final Slot[] slots = new Slot[SLOTS];
    private final int[] numbers = new int[MOST_WAITING];
    private int waiting;
    private boolean imaged;

    public StoneSheets() {
        for (int k = 0; k < rows.length; k++) {
            rows[k] = new Row();
        }
        for (int k = 0; k < slots.length; k++) {
            slots[k] = new Slot();
        }
    }

    // ---- rubbings, the wall

    public int rubbing(int kind, int raw, int size) {
        if (!isKind(kind) || !within(raw, 0, MOST_RAW) || !within(size, 1, MOST_SIZE)) {
            return BAD;
        }
        return wall.hasRoom() ? wall.add(kind, raw, size) : FULL;
    }

    public int told(int rubbing, int what) {
        Rubbing r = wall.one(rubbing);
        if (r == null) {
            return BAD;
        }
        switch (what) {
            case 0: return r.kind;
            case 6: return r.covered();
            case 7: return wall.gainOf(r);
            case 8: return r.loss();
            case 9: return r.worth();
            default: return isSettable(what) ? r.value(what) : BAD;
        }
    }

    public int says(int rubbing, int p) {
        Rubbing r = wall.one(rubbing);
        return r != null && within(p, 0, r.size - 1) ? r.sayAt(p) : BAD;
    }

    public int as(int rubbing, int kind) {
        Rubbing r = wall.one(rubbing);
        if (r == null || !isKind(kind)) {
            return BAD;
        }
        return r.isOf(kind) ? r.size : KIND;
    }

    public int turns(int rubbing, int kind) {
        Rubbing r = wall.one(rubbing);
        if (r == null || !isKind(kind)) {
            return BAD;
        }
        int was = r.kind;
        r.kind = kind;
        return was;
    }

    public int set(int rubbing, int what, int v) {
        Rubbing r = wall.one(rubbing);
        if (r == null || !isSettable(what) || !within(v, leastValue(what), mostValue(what))) {
            return BAD;
        }
        int was = r.value(what);
        r.become(what, v);
        return was;
    }

    public int carve(int place, int v) {
        if (!isPlace(place) || !within(v, 0, MARKS - 1)) {
            return BAD;
        }
        int was = wall.markAt(place);
        wall.carveAt(place, v);
        return was;
    }

    public int carved(int place) {
        return isPlace(place) ? wall.markAt(place) : BAD;
    }

    public int deal(int n) {
        if (!within(n, 1, MOST_RUBBINGS)) {
            return BAD;
        }
        int came = 0;
        while (came < n && wall.hasRoom()) {
            int kind = wall.draw() % KINDS;
            int raw = wall.draw() % (MOST_RAW + 1);
            int size = 1 + wall.draw() % MOST_SIZE;
            wall.add(kind, raw, size);
            came++;
        }
        return came;
    }

    public int seed(int v) {
        int was = wall.z;
        wall.z = v;
        return was;
    }

    // ---- how they lie

    public int falseAt(int rubbing, int x) {
        Rubbing r = wall.one(rubbing);
        return r != null && isPlace(x) ? wall.falsehood(r, x) : BAD;
    }

    public int fits(int rubbing, int what) {
        Rubbing r = wall.one(rubbing);
        if (r == null || !within(what, 0, 1)) {
            return BAD;
        }
        int place = 0;
        int least = wall.falsehood(r, 0);
        for (int x = 1; x <= PLACES - r.size; x++) {
            int at = wall.falsehood(r, x);
            if (at < least) {
                least = at;
                place = x;
            }
        }
        return what == 0 ? place : least;
    }

    public int join(int a, int b, int what) {
        Rubbing first = wall.one(a);
        Rubbing second = wall.one(b);
        if (first == null || second == null || a == b || !within(what, 0, 1)) {
            return BAD;
        }
        int place = 0;
        int most = first.joined(second, 0);
        for (int d = 1; d < first.size; d++) {
            int sum = first.joined(second, d);
            if (sum > most) {
                most = sum;
                place = d;
            }
        }
        return what == 0 ? place : most;
    }

    public int clash(int a, int b) {
        Rubbing first = wall.one(a);
        Rubbing second = wall.one(b);
        if (first == null || second == null || a == b) {
            return BAD;
        }
        return first.clashes(second) ? 1 : 0;
    }

    public int undone() {
        wall.noteClashes();
        int laid = wall.laidSet();
        int fewest = laid;
        for (int off = 0; off < laid; off++) {
            if (isFewerOf(off, fewest, laid) && !wall.anyClash(laid & ~off)) {
                fewest = off;
            }
        }
        return fewest;
    }

    public int borne() {
        int laid = wall.laidSet();
        int all = wall.coveredBy(laid);
        int fewest = laid;
        for (int set = 0; set < laid; set++) {
            if (isFewerOf(set, fewest, laid) && wall.coveredBy(set) == all) {
                fewest = set;
            }
        }
        return fewest;
    }

    public int look(int what) {
        if (!within(what, 0, 1)) {
            return BAD;
        }
        int place = 0;
        int most = wall.deniers(0);
        for (int x = 1; x < PLACES; x++) {
            int many = wall.deniers(x);
            if (many > most) {
                most = many;
                place = x;
            }
        }
        return what == 0 ? place : most;
    }

    // ---- tides

    public int tides(int n) {
        if (!within(n, 1, 100)) {
            return BAD;
        }
        int before = wall.found;
        wall.flow(Math.min(n, MOST_TIDES - wall.tide));
        return wall.found - before;
    }

    public int book(int what) {
        switch (what) {
            case 0: return wall.found;
            case 1: return wall.trustOfAll();
            case 2: return wall.laidSet();
            case 3: return wall.open();
            default: return BAD;
        }
    }

    public int behind(int n, int what) {
        if (!within(n, 0, 100) || !within(what, 0, 2 + wall.many)) {
            return BAD;
        }
        thought.takeFrom(wall);
        thought.flow(n);
        switch (what) {
            case 0: return thought.trustOfAll();
            case 1: return thought.laidSet();
            case 2: return thought.found;
            default: return thought.trustOf(what - 3);
        }
    }

    public int lasts() {
        thought.takeFrom(wall);
        for (int n = 0; n <= LASTING_TIDES; n++) {
            if (thought.laidSet() == 0) {
                return n;
            }
            thought.flow(1);
        }
        return NONE;
    }

    public int best(int rubbing, int n, int what) {
        if (wall.one(rubbing) == null || !within(n, 1, 60) || !within(what, 0, 1)) {
            return BAD;
        }
        int place = 0;
        int most = -1;
        for (int x = 0; x < PLACES; x++) {
            thought.takeFrom(wall);
            thought.layOne(rubbing, x);
            thought.flow(n);
            int trust = thought.trustOf(rubbing);
            if (trust > most) {
                most = trust;
                place = x;
            }
        }
        return what == 0 ? place : most;
    }

    public int taught(int n, int what) {
        if (!within(n, 1, 60) || !within(what, 0, 1)) {
            return BAD;
        }
        int place = 0;
        int most = -1;
        for (int x = 0; x < PLACES; x++) {
            thought.takeFrom(wall);
            thought.carveAt(x, (wall.markAt(x) + 1) % MARKS);
            thought.flow(n);
            int trust = thought.trustOfAll();
            if (trust > most) {
                most = trust;
                place = x;
            }
        }
        return what == 0 ? place : most;
    }

    public int whose(int sheet, int what) {
        Row row = rowOf(sheet);
        if (row == null || !within(what, 0, 1)) {
            return BAD;
        }
        if (row.isMissing()) {
            return NOTHING;
        }
        int whose = NONE;
        int least = NONE;
        for (int k = 0; k < wall.many; k++) {
            int apart = apart(wall.one(k), row);
            if (k == 0 || apart < least) {
                least = apart;
                whose = k;
            }
        }
        return what == 0 ? whose : least;
    }

    public int fee() {
        return wall.given(FEE, null, wall.found);
    }

    public int fine(int rubbing) {
        Rubbing r = wall.one(rubbing);
        return r == null ? BAD : wall.given(FINE, r, r.trust);
    }

    // ---- texts

    public int feed(int a, int b, int c) {
        if (!reader.hasRoom(12)) {
            return FULL;
        }
        reader.takeNumber(a);
        reader.takeNumber(b);
        reader.takeNumber(c);
        return reader.length;
    }

    public int trim(int n) {
        if (!within(n, 0, reader.length)) {
            return BAD;
        }
        reader.length = n;
        return n;
    }

    public int text() {
        int fault = reader.readInto(laws.draft);
        reader.length = 0;
        if (fault >= 0) {
            return FIRST_FAULT - fault;
        }
        return wall.texts < MOST_TEXTS ? wall.addText() : FULL;
    }

    public int textTold(int text, int what) {
        Law law = wall.lawAt(text);
        if (law == null || !within(what, 0, 1)) {
            return BAD;
        }
        return what == 0 ? law.key : law.pieces;
    }

    public int why(int key) {
        return within(key, 0, KEYS - 1) ? wall.textFor(key) : BAD;
    }

    // ---- sheets, slots

    public int sheet(int sheet, int sort, int n) {
        Row row = rowOf(sheet);
        if (row == null || !within(sort, MISSING, FLOATS)) {
            return BAD;
        }
        if (sort == MISSING) {
            row.become(MISSING, 0);
            return 0;
        }
        if (n > MOST_SHEET_PLACES) {
            return BAD;
        }
        if (n < 0) {
            return SIZE;
        }
        row.become(sort, n);
        return n;
    }

    public int mark(int sheet, int place, int v) {
        Row row = rowOf(sheet);
        if (row == null) {
            return BAD;
        }
        if (row.isMissing()) {
            return NOTHING;
        }
        if (!row.has(place)) {
            return INDEX;
        }
        if (row.sort == SHORTS) {
            if (v == NONE) {
                return KIND;
            }
            row.put(place, (short) v);
            return 1;
        }
        if (v != NONE && !within(v, -MOST_FLOAT, MOST_FLOAT)) {
            return BAD;
        }
        row.put(place, v);
        return 1;
    }

    public int pour(int sheet) {
        Row row = rowOf(sheet);
        if (row == null) {
            return BAD;
        }
        if (row.isMissing()) {
            return NOTHING;
        }
        int otherwise = 0;
        for (int x = 0; x < PLACES; x++) {
            int v = row.at(x);
            int mark = held(v, 0, MARKS - 1);
            if (v != NONE && mark != wall.markAt(x)) {
                wall.carveAt(x, mark);
                otherwise++;
            }
        }
        return otherwise;
    }

    public int reads(int sheet) {
        Row row = rowOf(sheet);
        if (row == null) {
            return BAD;
        }
        if (row.isMissing()) {
            return NOTHING;
        }
        for (int k = 0; k < row.length; k++) {
            int v = row.at(k);
            Rubbing r = wall.one(k);
            if (v != NONE && (r == null || r.trust != v)) {
                return k;
            }
        }
        return NONE;
    }

    public int copy(int from, int place, int to, int at, int many) {
        Row source = rowOf(from);
        Row target = rowOf(to);
        if (source == null || target == null) {
            return BAD;
        }
        if (source.isMissing() || target.isMissing()) {
            return NOTHING;
        }
        if (source.sort != target.sort) {
            return KIND;
        }
        if (!source.hasAll(place, many) || !target.hasAll(at, many)) {
            return INDEX;
        }
        System.arraycopy(source.values, place, target.values, at, many);
        return many;
    }

    public int lay(int slot, int thing, int k) {
        Slot s = slotOf(slot);
        if (s == null || !within(thing, Slot.HOLDS_NOTHING, Slot.HOLDS_NUMBER)) {
            return BAD;
        }
        Rubbing r = wall.one(k);
        Row row = rowOf(k);
        if ((thing == Slot.HOLDS_RUBBING && r == null) || (thing == Slot.HOLDS_SHEET && row == null)) {
            return BAD;
        }
        if (thing == Slot.HOLDS_SHEET && row != null && row.isMissing()) {
            return NOTHING;
        }
        int was = s.thing;
        s.thing = thing;
        if (thing == Slot.HOLDS_RUBBING) {
            s.rubbing.takeFrom(r);
        } else if (thing == Slot.HOLDS_SHEET) {
            s.row.takeFrom(row);
        } else if (thing == Slot.HOLDS_NUMBER) {
            s.number = k;
        }
        return was;
    }

    public int ask(int slot, int kind) {
        Slot s = slotOf(slot);
        if (s == null || !isKind(kind)) {
            return BAD;
        }
        if (s.thing == Slot.HOLDS_NOTHING) {
            return NOTHING;
        }
        return s.thing == Slot.HOLDS_RUBBING && s.rubbing.isOf(kind) ? s.rubbing.worth() : KIND;
    }

    public int item(int slot, int place) {
        Slot s = slotOf(slot);
        if (s == null) {
            return BAD;
        }
        if (s.thing == Slot.HOLDS_NOTHING) {
            return NOTHING;
        }
        if (s.thing != Slot.HOLDS_SHEET) {
            return KIND;
        }
        if (!s.row.has(place)) {
            return INDEX;
        }
        int v = s.row.at(place);
        return v == NONE ? KIND : v;
    }

    public int rest(int slot, int n) {
        Slot s = slotOf(slot);
        if (s == null) {
            return BAD;
        }
        if (s.thing == Slot.HOLDS_NOTHING) {
            return NOTHING;
        }
        if (s.thing != Slot.HOLDS_NUMBER) {
            return KIND;
        }
        return n == 0 ? NO : s.number % n;
    }

    // ---- rows, images

    public int tell(int v) {
        if (waiting < 0 || waiting >= numbers.length) {
            return FULL;
        }
        numbers[waiting] = v;
        waiting++;
        return waiting;
    }

    public int check(int n) {
        int many = waiting;
        waiting = 0;
        if (!within(n, 1, MOST_CHECKED)) {
            return BAD;
        }
        if (!imaged) {
            return NO;
        }
        thought.takeFrom(image);
        int told = 2 * Math.min(n, MOST_TIDES - image.tide);
        for (int k = 0; k < told; k++) {
            if (k % 2 == 0) {
                thought.flow(1);
            }
            int due = k % 2 == 0 ? thought.trustOfAll() : Integer.bitCount(thought.laidSet());
            if (k >= many || k >= numbers.length || numbers[k] != due) {
                return 1 + k;
            }
        }
        return many > told ? 1 + told : 0;
    }

    public int keep() {
        image.takeFrom(wall);
        imaged = true;
        return wall.many;
    }

    public int back() {
        if (!imaged) {
            return NO;
        }
        wall.takeFrom(image);
        return wall.many;
    }

    public int count(int what) {
        switch (what) {
            case 0: return wall.many;
            case 1: return wall.tide;
            case 2: return Integer.bitCount(wall.laidSet());
            case 3: return wall.texts;
            case 4: return waiting;
            case 5: return reader.length;
            case 6: return wall.z;
            default: return BAD;
        }
    }

    // ---- what the calls share

    private static boolean within(int v, int least, int most) {
        return v >= least && v <= most;
    }

    private static int held(int v, int least, int most) {
        return Math.max(least, Math.min(most, v));
    }

    private static boolean isPlace(int x) {
        return within(x, 0, PLACES - 1);
    }

    private static boolean isKind(int kind) {
        return within(kind, 0, KINDS - 1);
    }

    private static boolean isSettable(int what) {
        return within(what, RAW_VALUE, TRUST_VALUE);
    }

    private static int leastValue(int what) {
        return what == SIZE_VALUE ? 1 : 0;
    }

    private static int mostValue(int what) {
        switch (what) {
            case RAW_VALUE: return MOST_RAW;
            case SIZE_VALUE: return MOST_SIZE;
            case TURNED_VALUE: return 1;
            case LAID_VALUE: return NOWHERE;
            default: return MOST_TRUST;
        }
    }

    /** Sets are gone through from the least on, so that only a smaller one takes the place of one found. */
    private static boolean isFewerOf(int set, int fewest, int all) {
        return (set & ~all) == 0 && Integer.bitCount(set) < Integer.bitCount(fewest);
    }

    private static int apart(Rubbing r, Row row) {
        int apart = 0;
        for (int k = 0; r != null && k < row.length; k++) {
            int v = row.at(k);
            if (v != NONE) {
                apart += Math.abs(r.sayAt(k) - v);
            }
        }
        return apart;
    }

    private Row rowOf(int sheet) {
        return sheet >= 0 && sheet < rows.length ? rows[sheet] : null;
    }

    private Slot slotOf(int slot) {
        return slot >= 0 && slot < slots.length ? slots[slot] : null;
    }

    /** One RUBBING. */
    private static final class Rubbing {
        private static final int[] ABOVE = {-1, 0, 0, 1, 2, 0};

        int kind;
        int raw;
        int size = 1;
        int turned;
        int laid = NOWHERE;
        int trust = FIRST_TRUST;

        void begin(int newKind, int newRaw, int newSize) {
            kind = newKind;
            raw = newRaw;
            size = newSize;
            turned = 0;
            laid = NOWHERE;
            trust = FIRST_TRUST;
        }

        void takeFrom(Rubbing other) {
            if (other != null) {
                kind = other.kind;
                raw = other.raw;
                size = other.size;
                turned = other.turned;
                laid = other.laid;
                trust = other.trust;
            }
        }

        int value(int what) {
            switch (what) {
                case RAW_VALUE: return raw;
                case SIZE_VALUE: return size;
                case TURNED_VALUE: return turned;
                case LAID_VALUE: return laid;
                default: return trust;
            }
        }

        void become(int what, int v) {
            switch (what) {
                case RAW_VALUE: raw = v; break;
                case SIZE_VALUE: size = v; break;
                case TURNED_VALUE: turned = v; break;
                case LAID_VALUE: laid = v; break;
                default: trust = v; break;
            }
        }

        boolean isOf(int asked) {
            int at = kind;
            for (int step = 0; step < KINDS && at >= 0 && at < ABOVE.length; step++) {
                if (at == asked) {
                    return true;
                }
                at = ABOVE[at];
            }
            return false;
        }

        boolean isLaid() {
            return laid != NOWHERE;
        }

        boolean covers(int x) {
            return isLaid() && isPlace(x) && x >= laid && x < laid + size;
        }

        int covered() {
            int set = 0;
            for (int x = 0; x < PLACES; x++) {
                if (covers(x)) {
                    set |= 1 << x;
                }
            }
            return set;
        }

        /** Beyond SIZE it answers 0, as WHOSE wants it. */
        int sayAt(int p) {
            if (p < 0 || p >= size) {
                return 0;
            }
            switch (kind) {
                case BOLD: return bolder(rubbedAt(p));
                case TWICE: return bolder(bolder(rubbedAt(p)));
                case FAINT: return fainter(rubbedAt(p));
                case CRACKED: return p == size / 2 ? MARKS - 1 : fainter(rubbedAt(p));
                case MADE: return 2;
                default: return rubbedAt(p);
            }
        }

        private int rubbedAt(int p) {
            int at = turned == 1 ? size - 1 - p : p;
            return raw >> 2 * at & MARKS - 1;
        }

        private static int bolder(int mark) {
            return mark > 0 ? Math.min(MARKS - 1, mark + 1) : mark;
        }

        private static int fainter(int mark) {
            return Math.max(0, mark - 1);
        }

        /** What it GAINS where a plain RUBBING gains so much. */
        int gainOver(int plain) {
            switch (kind) {
                case BOLD:
                case TWICE: return plain + 1;
                case FAINT: return plain / 2;
                case CRACKED: return plain / 2 + 2;
                case MADE: return 0;
                default: return plain;
            }
        }

        int loss() {
            switch (kind) {
                case BOLD: return 7;
                case TWICE: return 14;
                case FAINT:
                case CRACKED: return 3;
                case MADE: return 20;
                default: return 5;
            }
        }

        int worth() {
            switch (kind) {
                case BOLD: return trust + 5;
                case TWICE: return 2 * (trust + 5);
                case FAINT: return 99 - trust;
                case CRACKED: return 99 - trust - 6;
                case MADE: return 1;
                default: return trust;
            }
        }

        int joined(Rubbing other, int d) {
            int sum = 0;
            for (int p = d; p < size && p - d < other.size; p++) {
                sum += sayAt(p) == other.sayAt(p - d) ? 1 : -2;
            }
            return sum;
        }

        boolean clashes(Rubbing other) {
            for (int x = 0; x < PLACES; x++) {
                if (covers(x) && other.covers(x) && sayAt(x - laid) != other.sayAt(x - other.laid)) {
                    return true;
                }
            }
            return false;
        }
    }

    /** All that AN IMAGE keeps: the true state, the one kept, and the one that is only thought. */
    private static final class Wall {
        final Laws laws;
        final int[] marks = new int[PLACES];
        final Rubbing[] rubbings = new Rubbing[MOST_RUBBINGS];
        final int[] clashing = new int[MOST_RUBBINGS];
        final int[] counting = new int[KEYS];
        int many;
        int texts;
        int tide;
        int found;
        int z = 1;

        Wall(Laws all) {
            laws = all;
            Arrays.fill(counting, NONE);
            for (int k = 0; k < rubbings.length; k++) {
                rubbings[k] = new Rubbing();
            }
        }

        void takeFrom(Wall other) {
            System.arraycopy(other.marks, 0, marks, 0, PLACES);
            System.arraycopy(other.counting, 0, counting, 0, KEYS);
            many = other.many;
            texts = other.texts;
            tide = other.tide;
            found = other.found;
            z = other.z;
            for (int k = 0; k < many; k++) {
                Rubbing r = one(k);
                if (r != null) {
                    r.takeFrom(other.one(k));
                }
            }
        }

        boolean hasRoom() {
            return many < MOST_RUBBINGS;
        }

        int add(int kind, int raw, int size) {
            int number = many;
            many++;
            Rubbing r = one(number);
            if (r != null) {
                r.begin(kind, raw, size);
            }
            return number;
        }

        Rubbing one(int k) {
            return k >= 0 && k < many && k < rubbings.length ? rubbings[k] : null;
        }

        int trustOf(int k) {
            Rubbing r = one(k);
            return r == null ? 0 : r.trust;
        }

        void layOne(int k, int x) {
            Rubbing r = one(k);
            if (r != null) {
                r.laid = x;
            }
        }

        int markAt(int x) {
            return x >= 0 && x < marks.length ? marks[x] : 0;
        }

        void carveAt(int x, int v) {
            if (x >= 0 && x < marks.length) {
                marks[x] = v;
            }
        }

        int draw() {
            z = z * 1103515245 + 12345;
            return z >>> 8;
        }

        int falsehood(Rubbing r, int x) {
            int otherwise = 0;
            for (int p = 0; p < r.size && x + p < PLACES; p++) {
                if (r.sayAt(p) != markAt(x + p)) {
                    otherwise++;
                }
            }
            return otherwise;
        }

        int trustOfAll() {
            int sum = 0;
            for (int k = 0; k < many; k++) {
                sum += trustOf(k);
            }
            return sum;
        }

        int laidSet() {
            int set = 0;
            for (int k = 0; k < many; k++) {
                Rubbing r = one(k);
                if (r != null && r.isLaid()) {
                    set |= 1 << k;
                }
            }
            return set;
        }

        int coveredBy(int set) {
            int covered = 0;
            for (int k = 0; k < many; k++) {
                Rubbing r = one(k);
                if (r != null && (set >> k & 1) == 1) {
                    covered |= r.covered();
                }
            }
            return covered;
        }

        int open() {
            return (1 << PLACES) - 1 & ~coveredBy(laidSet());
        }

        /** Noted once, since UNDONE asks of the same two in hundreds of sets. */
        void noteClashes() {
            for (int a = 0; a < many && a < clashing.length; a++) {
                clashing[a] = 0;
                Rubbing r = one(a);
                for (int b = 0; b < many; b++) {
                    Rubbing other = one(b);
                    if (a != b && r != null && other != null && r.clashes(other)) {
                        clashing[a] |= 1 << b;
                    }
                }
            }
        }

        boolean anyClash(int set) {
            for (int k = 0; k < many && k < clashing.length; k++) {
                if ((set >> k & 1) == 1 && (clashing[k] & set) != 0) {
                    return true;
                }
            }
            return false;
        }

        int deniers(int x) {
            int deniers = 0;
            for (int k = 0; k < many; k++) {
                Rubbing r = one(k);
                if (r != null && r.covers(x) && r.sayAt(x - r.laid) != markAt(x)) {
                    deniers++;
                }
            }
            return deniers;
        }

        /** So many TIDES; whoever calls minds the bound of THE TIDE. */
        void flow(int n) {
            for (int i = 0; i < n; i++) {
                int x = draw() % PLACES;
                for (int k = 0; k < many; k++) {
                    Rubbing r = one(k);
                    if (r != null && r.covers(x)) {
                        seeAgain(r, x);
                    }
                }
                tide++;
            }
        }

        private void seeAgain(Rubbing r, int x) {
            if (r.sayAt(x - r.laid) == markAt(x)) {
                r.trust = Math.min(MOST_TRUST, r.trust + gainOf(r));
            } else {
                r.trust -= r.loss();
            }
            if (r.trust <= 0) {
                r.trust = 0;
                r.laid = NOWHERE;
                found++;
            }
        }

        int gainOf(Rubbing r) {
            return r.gainOver(held(given(GAIN, r, PLAIN_GAIN), 0, MOST_TRUST));
        }

        /** What the TEXT that counts for a KEY gives; so much, if there is none. */
        int given(int key, Rubbing r, int without) {
            Law law = lawAt(textFor(key));
            return law == null ? without : laws.worked(law, this, r);
        }

        int textFor(int key) {
            return key >= 0 && key < counting.length ? counting[key] : NONE;
        }

        Law lawAt(int text) {
            return text < texts ? laws.one(text) : null;
        }

        /** Images need no TEXTS of their own: a number is told anew only where no image has it. */
        int addText() {
            Law law = laws.one(texts);
            int key = laws.draft.key;
            if (law == null || key < 0 || key >= counting.length) {
                return FULL;
            }
            law.takeFrom(laws.draft);
            counting[key] = texts;
            texts++;
            return texts - 1;
        }
    }

    /** One TEXT: its numbers (0 and above), names and signs (their letters, below 0), a sign behind what it joins. */
    private static final class Law {
        final int[] code = new int[MOST_BYTES];
        int length;
        int key;
        int pieces;

        void begin(int newKey) {
            key = newKey;
            length = 0;
            pieces = 0;
        }

        void add(int c) {
            if (length >= 0 && length < code.length) {
                code[length] = c;
                length++;
            }
        }

        int at(int k) {
            return k >= 0 && k < code.length ? code[k] : 0;
        }

        void takeFrom(Law other) {
            System.arraycopy(other.code, 0, code, 0, MOST_BYTES);
            length = other.length;
            key = other.key;
            pieces = other.pieces;
        }
    }

    /** All TEXTS, and the room in which they are worked out. */
    private static final class Laws {
        final Law[] rows = new Law[MOST_TEXTS];
        final Law draft = new Law();
        final int[] stack = new int[MOST_BYTES];
        int top;

        Laws() {
            for (int k = 0; k < rows.length; k++) {
                rows[k] = new Law();
            }
        }

        Law one(int k) {
            return k >= 0 && k < rows.length ? rows[k] : null;
        }

        int worked(Law law, Wall wall, Rubbing r) {
            top = 0;
            for (int k = 0; k < law.length; k++) {
                int c = law.at(k);
                if (c >= 0) {
                    push(c);
                } else if (Reader.isLetter(-c)) {
                    push(named(-c, wall, r));
                } else if (c == -'!') {
                    push(pop() == 0 ? 1 : 0);
                } else {
                    int right = pop();
                    push(joined(-c, pop(), right));
                }
            }
            return pop();
        }

        private void push(int v) {
            if (top >= 0 && top < stack.length) {
                stack[top] = v;
                top++;
            }
        }

        private int pop() {
            if (top <= 0 || top > stack.length) {
                return 0;
            }
            top--;
            return stack[top];
        }

        private static int named(int letter, Wall wall, Rubbing r) {
            switch (letter) {
                case 'n': return wall.tide;
                case 'f': return wall.found;
                case 't': return r == null ? 0 : r.trust;
                case 's': return r == null ? 0 : r.size;
                default: return r == null ? 0 : r.laid;
            }
        }

        private static int joined(int sign, int left, int right) {
            switch (sign) {
                case '|': return left != 0 || right != 0 ? 1 : 0;
                case '&': return left != 0 && right != 0 ? 1 : 0;
                case '<': return left < right ? 1 : 0;
                case '=': return left == right ? 1 : 0;
                case '>': return left > right ? 1 : 0;
                case '+': return left + right;
                case '-': return left - right;
                case '*': return left * right;
                default: return right == 0 ? 0 : left / right;
            }
        }
    }

    /** THE TAPE, and what reads it: word by word, with the signs that still wait for what stands behind them. */
    private static final class Reader {
        private static final int END = 0, LETTERS = 1, DIGITS = 2, SIGN = 3;
        private static final int TESTS = 3;

        final int[] tape = new int[MOST_BYTES];
        int length;
        private int sort;
        private int start;
        private int place;
        private boolean glued;
        private final int[] signs = new int[MOST_BYTES];
        private int top;
        private int brackets;
        private int nots;
        private boolean wanting;

        boolean hasRoom(int bytes) {
            return length + bytes <= MOST_BYTES;
        }

        void takeNumber(int v) {
            for (int shift = 24; shift >= 0; shift -= 8) {
                if (length >= 0 && length < tape.length) {
                    tape[length] = v >>> shift & 255;
                    length++;
                }
            }
        }

        /** The place of the FAULT, or -1; the law is of use only without one. */
        int readInto(Law law) {
            place = 0;
            sort = SIGN;
            nextWord();
            int key = keyRead();
            if (key < 0) {
                return start;
            }
            law.begin(key);
            top = 0;
            brackets = 0;
            nots = 0;
            wanting = true;
            nextWord();
            for (int step = 0; step < MOST_BYTES && sort != END; step++) {
                if (!goesOn(law)) {
                    return start;
                }
                nextWord();
            }
            if (wanting || brackets > 0) {
                return start;
            }
            unwind(law, 1);
            return -1;
        }

        private void nextWord() {
            boolean behindWord = sort == LETTERS || sort == DIGITS;
            int end = place;
            while (place < length && byteAt(place) == ' ') {
                place++;
            }
            start = place;
            sort = sortOf(byteAt(start));
            glued = behindWord && start == end;
            if (sort != END) {
                place++;
            }
            while (sort != SIGN && place < length && sortOf(byteAt(place)) == sort) {
                place++;
            }
        }

        private int byteAt(int k) {
            return k >= 0 && k < length && k < tape.length ? tape[k] : -1;
        }

        private static int sortOf(int c) {
            if (c < 0) {
                return END;
            }
            if (isLetter(c)) {
                return LETTERS;
            }
            return c >= '0' && c <= '9' ? DIGITS : SIGN;
        }

        static boolean isLetter(int c) {
            return c >= 'a' && c <= 'z';
        }

        private int keyRead() {
            if (isWord("gain")) {
                return GAIN;
            }
            if (isWord("fee")) {
                return FEE;
            }
            return isWord("fine") ? FINE : -1;
        }

        private boolean isWord(String word) {
            if (place - start != word.length()) {
                return false;
            }
            for (int k = 0; k < word.length(); k++) {
                if (byteAt(start + k) != word.charAt(k)) {
                    return false;
                }
            }
            return true;
        }

        private boolean goesOn(Law law) {
            if (sort == SIGN) {
                return wanting ? takeAhead(byteAt(start)) : takeBehind(law, byteAt(start));
            }
            return wanting && !glued && takePiece(law);
        }

        private boolean takePiece(Law law) {
            int c = sort == DIGITS ? numberRead() : nameRead(law.key);
            if (c == NONE) {
                return false;
            }
            law.add(c);
            law.pieces++;
            endPiece(law);
            return true;
        }

        private int numberRead() {
            if (place - start > MOST_DIGITS) {
                return NONE;
            }
            int v = 0;
            for (int k = start; k < place; k++) {
                v = 10 * v + byteAt(k) - '0';
            }
            return v;
        }

        private int nameRead(int key) {
            String names = key == GAIN ? "tsl" : key == FEE ? "nf" : "ts";
            int letter = byteAt(start);
            return place - start == 1 && names.indexOf((char) letter) >= 0 ? -letter : NONE;
        }

        /** A sign where a PIECE is wanted. */
        private boolean takeAhead(int sign) {
            if (sign == '(' && brackets < MOST_OPEN) {
                brackets++;
                push(sign);
                return true;
            }
            if (sign == '!' && nots < MOST_OPEN) {
                nots++;
                push(sign);
                return true;
            }
            return false;
        }

        /** A sign where a PIECE has ended. */
        private boolean takeBehind(Law law, int sign) {
            if (sign == ')' && brackets > 0) {
                unwind(law, 1);
                top--;
                brackets--;
                endPiece(law);
                return true;
            }
            int rank = rankOf(sign);
            if (rank == 0) {
                return false;
            }
            unwind(law, rank == TESTS ? rank + 1 : rank);
            if (rank == TESTS && rankOf(peek()) == TESTS) {
                return false;
            }
            push(sign);
            wanting = true;
            return true;
        }

        private void endPiece(Law law) {
            while (top > 0 && peek() == '!') {
                law.add(-peek());
                top--;
                nots--;
            }
            wanting = false;
        }

        /** Signs that bind as much, or more, join what stands ahead of them; a bracket that is open holds them up. */
        private void unwind(Law law, int rank) {
            while (top > 0 && rankOf(peek()) >= rank) {
                law.add(-peek());
                top--;
            }
        }

        private static int rankOf(int sign) {
            switch (sign) {
                case '|': return 1;
                case '&': return 2;
                case '<':
                case '=':
                case '>': return TESTS;
                case '+':
                case '-': return 4;
                case '*':
                case '/': return 5;
                default: return 0;
            }
        }

        private void push(int sign) {
            if (top >= 0 && top < signs.length) {
                signs[top] = sign;
                top++;
            }
        }

        private int peek() {
            return top > 0 && top <= signs.length ? signs[top - 1] : 0;
        }
    }

    /** A SHEET: of floats too whole numbers, NONE for NO NUMBER. */
    private static final class Row {
        final int[] values = new int[MOST_SHEET_PLACES];
        int sort = MISSING;
        int length;

        void become(int newSort, int n) {
            sort = newSort;
            length = n;
            Arrays.fill(values, 0);
        }

        boolean isMissing() {
            return sort == MISSING;
        }

        boolean has(int place) {
            return place >= 0 && place < length;
        }

        boolean hasAll(int place, int many) {
            return place >= 0 && many >= 0 && length <= values.length && place <= length && many <= length - place;
        }

        int at(int place) {
            return has(place) && place < values.length ? values[place] : NONE;
        }

        void put(int place, int v) {
            if (has(place) && place < values.length) {
                values[place] = v;
            }
        }

        void takeFrom(Row other) {
            if (other != null) {
                System.arraycopy(other.values, 0, values, 0, MOST_SHEET_PLACES);
                sort = other.sort;
                length = other.length;
            }
        }
    }

    /** What one SLOT holds, each thing in a room of its own. */
    private static final class Slot {
        private static final int HOLDS_NOTHING = 0, HOLDS_RUBBING = 1, HOLDS_SHEET = 2, HOLDS_NUMBER = 3;

        final Rubbing rubbing = new Rubbing();
        final Row row = new Row();
        int thing = HOLDS_NOTHING;
        int number;
    }
}
