/** Work in prison: shops, hands, things, texts, days, searches and counts. README.md tells how to use it. */
public final class PrisonShops {
    public static final int BAD = -1000000001, NO = -1000000002, FULL = -1000000003, NONE = -1000000005,
        NOTHING = -1000000011, KIND = -1000000012, INDEX = -1000000013, SIZE = -1000000014;

    private static final int MOST_SHOPS = 3, MOST_HANDS = 10, MOST_THINGS = 30, MOST_TEXTS = 12, MOST_EVENTS = 40;
    private static final int TAPE_BYTES = 96, FEED_BYTES = 12, MOST_WAITING = 60, LAST_DAY = 999;
    private static final int MOST_PENCE = 99999, MOST_RULE = 9999, MOST_SKILL = 3, MOST_RISK = 3, MOST_DAYS_EARNED = 99;

    // The fields of a SHOP stand as has() numbers them; what has() counts anew (5, 8, 9, 10) is not kept.
    private static final int PLACES = 0, SHOP_RISK = 1, LEVEL = 2, RATE = 3, LOCKED = 4, INSIDE = 5, MADE = 6, SHUT = 7;
    private static final int SHOP_FIELDS = 8, SHOP_TOOLS = 8, SHOP_OUT = 9, SHOP_LOST = 10;

    // The fields of a HAND stand as is() numbers them; BARS are bits of HANDS, COUNTED the TURNS that earned days already.
    private static final int RISK = 0, SKILL = 1, TERM = 2, OWES = 3, COIN = 4, SAVED = 5, TURNS = 6, LEARNT = 7;
    private static final int SHOP = 8, COURT = 9, EARNED = 10, FREE = 11, BARS = 12, COUNTED = 13, HAND_FIELDS = 14;

    // The fields of a THING stand as told() numbers them; MISSED: at the last BELL it hung and was not seen.
    private static final int THING_KIND = 0, THING_SHOP = 1, AMOUNT = 2, DATE = 3, WHERE = 4, HOLDER = 5, DONE = 6;
    private static final int MISSED = 7, THING_FIELDS = 8;
    private static final int HANGS = 0, OUT = 1, LOST = 2;

    // The fields of an EVENT stand as event() numbers them.
    private static final int EVENT_HAND = 0, EVENT_DAYS = 1, TOLD_ON = 2, BACK_ON = 3, EVENT_FIELDS = 4;

    // The fields of a TEXT stand as of() numbers them; behind them come the steps that work its E out.
    private static final int KEY = 0, FROM_DAY = 1, PARTS = 2, STEPS = 3, FIRST_STEP = 4;
    private static final int TEXT_FIELDS = FIRST_STEP + TAPE_BYTES;
    private static final int KEY_PAY = 0, KEY_LOST = 1, KEY_VICTIM = 2, KEY_SAVE = 3, KEY_LEAST = 4, KEY_DAYS = 5, KEYS = 6;
    private static final int TO_VICTIMS = 0, TO_SAVED = 1, TO_COIN = 2;
    // A step below NAME_STEP is that NUMBER, one below SIGN_STEP a NAME by its place, else a sign by its byte.
    private static final int NAME_STEP = 10000, SIGN_STEP = 20000;

    private static final int KINDS = 6, TOOL = 1, BLADE = 2, ORDER = 5;
    private static final int[] KIND_ABOVE = {-1, 0, 1, 2, 0, 4};
    private static final int[] LEAST_AMOUNT = {0, 0, 0, 0, 0, 1};
    private static final int[] MOST_AMOUNT = {0, 0, 3, 3, 9999, 9999};
    private static final int[] MOST_DATE = {0, 0, 0, 0, 0, 999};

    private final State now = new State();
    private final State image = new State();
    private final State trial = new State();
    private final Rules rules = new Rules();
    private final Days days = new Days(rules);
    private final Forecast forecast = new Forecast();
    private final Filling filling = new Filling();
    private final Tape tape = new Tape();
    private final Reader reader = new Reader(tape);
    private final Sheets sheets = new Sheets();
    private final int[] waiting = new int[MOST_WAITING];
    private int waits = 0;
    private boolean hasImage = false;

    public PrisonShops() {
    }

    // ---- shops, hands and the filling

    public int shop(int places, int risk, int level) {
        if (!isWithin(places, 1, 5) || !isWithin(risk, 0, MOST_RISK) || !isWithin(level, 0, MOST_SKILL)) {
            return BAD;
        }
        if (now.shops.isFull()) {
            return FULL;
        }
        int shop = now.shops.add();
        now.shops.set(shop, PLACES, places);
        now.shops.set(shop, SHOP_RISK, risk);
        now.shops.set(shop, LEVEL, level);
        now.shops.set(shop, RATE, 5);
        return shop;
    }

    public int rate(int shop, int v) {
        if (!now.shops.holds(shop) || !isWithin(v, 0, 99)) {
            return BAD;
        }
        return now.shops.swap(shop, RATE, v);
    }

    public int lock(int shop, int n) {
        if (!now.shops.holds(shop) || !isWithin(n, 0, 99)) {
            return BAD;
        }
        return now.shops.swap(shop, LOCKED, n);
    }

    public int has(int shop, int what) {
        if (!now.shops.holds(shop) || !isWithin(what, 0, SHOP_LOST)) {
            return BAD;
        }
        switch (what) {
            case INSIDE: return Integer.bitCount(now.membersOf(shop));
            case SHOP_TOOLS: return now.countTools(shop, NONE);
            case SHOP_OUT: return now.countTools(shop, OUT);
            case SHOP_LOST: return now.countTools(shop, LOST);
            default: return now.shops.get(shop, what);
        }
    }

    public int hand(int risk, int skill, int term) {
        if (!isWithin(risk, 0, MOST_RISK) || !isWithin(skill, 0, MOST_SKILL) || !isWithin(term, 1, LAST_DAY)) {
            return BAD;
        }
        if (now.hands.isFull()) {
            return FULL;
        }
        int hand = now.hands.add();
        now.hands.set(hand, RISK, risk);
        now.hands.set(hand, SKILL, skill);
        now.hands.set(hand, TERM, term);
        now.hands.set(hand, SHOP, NONE);
        now.hands.set(hand, COURT, NONE);
        return hand;
    }

    public int is(int hand, int what) {
        if (!now.hands.holds(hand) || !isWithin(what, 0, FREE)) {
            return BAD;
        }
        return now.hands.get(hand, what);
    }

    public int be(int hand, int what, int v) {
        if (!now.hands.holds(hand) || !canBecome(what, v)) {
            return BAD;
        }
        return now.hands.swap(hand, what, v);
    }

    private boolean canBecome(int what, int v) {
        switch (what) {
            case RISK: return isWithin(v, 0, MOST_RISK);
            case SKILL: return isWithin(v, 0, MOST_SKILL);
            case OWES: return isWithin(v, 0, 9999);
            case COURT: return v == NONE || isWithin(v, now.day, LAST_DAY);
            default: return false;
        }
    }

    public int bar(int one, int other, int on) {
        if (!now.hands.holds(one) || !now.hands.holds(other) || one == other || !isWithin(on, 0, 1)) {
            return BAD;
        }
        int was = now.isBarred(one, other) ? 1 : 0;
        now.setBarred(one, other, on == 1);
        now.setBarred(other, one, on == 1);
        return was;
    }

    public int may(int hand, int shop) {
        if (!now.hands.holds(hand) || !now.shops.holds(shop)) {
            return BAD;
        }
        return now.mayWork(hand, shop) ? 1 : 0;
    }

    public int put(int hand, int shop) {
        if (!now.hands.holds(hand) || shop != NONE && !now.shops.holds(shop)) {
            return BAD;
        }
        if (shop != NONE && !(now.mayWork(hand, shop) && now.hasRoomFor(hand, shop))) {
            return NO;
        }
        int was = now.hands.get(hand, SHOP);
        now.move(hand, shop);
        return was;
    }

    public int filling(int what) {
        if (!isWithin(what, 0, 1 + now.hands.rows())) {
            return BAD;
        }
        filling.find(now);
        switch (what) {
            case 0: return filling.placed();
            case 1: return filling.turns();
            default: return filling.shopOf(what - 2);
        }
    }

    public int fill() {
        filling.find(now);
        int changed = 0;
        for (int hand = 0; hand < now.hands.rows(); hand++) {
            if (!now.isFree(hand) && filling.shopOf(hand) != now.hands.get(hand, SHOP)) {
                now.move(hand, filling.shopOf(hand));
                changed++;
            }
        }
        return changed;
    }

    public int never() {
        int bits = 0;
        for (int hand = 0; hand < now.hands.rows(); hand++) {
            if (!now.isFree(hand) && now.hands.get(hand, TURNS) == 0 && now.hands.get(hand, SHOP) == NONE) {
                bits |= 1 << hand;
            }
        }
        return bits;
    }

    // ---- things

    public int thing(int kind, int shop, int a, int date) {
        if (!isKind(kind) || !now.shops.holds(shop) || !fitsKind(kind, a, date)) {
            return BAD;
        }
        if (now.things.isFull()) {
            return FULL;
        }
        int thing = now.things.add();
        now.things.set(thing, THING_KIND, kind);
        now.things.set(thing, THING_SHOP, shop);
        now.things.set(thing, AMOUNT, a);
        now.things.set(thing, DATE, date);
        now.things.set(thing, WHERE, HANGS);
        now.things.set(thing, HOLDER, NONE);
        now.things.set(thing, DONE, NONE);
        return thing;
    }

    public int told(int thing, int what) {
        if (!now.things.holds(thing) || !isWithin(what, 0, DONE)) {
            return BAD;
        }
        return now.things.get(thing, what);
    }

    public int as(int thing, int kind) {
        if (!now.things.holds(thing) || !isKind(kind)) {
            return BAD;
        }
        return now.isOfKind(thing, kind) ? now.things.get(thing, AMOUNT) : KIND;
    }

    public int out(int thing, int hand) {
        if (!now.things.holds(thing) || !now.hands.holds(hand)) {
            return BAD;
        }
        if (!now.isOfKind(thing, TOOL)) {
            return KIND;
        }
        if (!now.mayHave(hand, thing)) {
            return NO;
        }
        now.things.set(thing, WHERE, OUT);
        now.things.set(thing, HOLDER, hand);
        return now.countOutTo(hand);
    }

    public int hang(int thing) {
        if (!now.things.holds(thing)) {
            return BAD;
        }
        if (!now.isOfKind(thing, TOOL)) {
            return KIND;
        }
        if (now.things.get(thing, WHERE) == HANGS) {
            return NO;
        }
        now.things.set(thing, HOLDER, NONE);
        return now.things.swap(thing, WHERE, HANGS);
    }

    public int bell(int shop, int seen) {
        if (!now.shops.holds(shop) || seen < 0 || seen >> now.countTools(shop, NONE) != 0) {
            return BAD;
        }
        int left = seen;
        int wrong = 0;
        for (int thing = 0; thing < now.things.rows(); thing++) {
            if (now.isToolOf(thing, shop)) {
                wrong += now.agreesAtBell(thing, (left & 1) == 1) ? 0 : 1;
                left = left >> 1;
            }
        }
        now.shops.set(shop, SHUT, wrong > 0 ? 1 : 0);
        return wrong;
    }

    public int who(int shop) {
        if (!now.shops.holds(shop)) {
            return BAD;
        }
        int bits = 0;
        for (int thing = 0; thing < now.things.rows(); thing++) {
            if (now.isToolOf(thing, shop) && now.things.get(thing, WHERE) == OUT) {
                bits |= 1 << now.things.get(thing, HOLDER);
            }
        }
        return bits;
    }

    public int late(int thing) {
        if (!now.things.holds(thing)) {
            return BAD;
        }
        if (!now.isOfKind(thing, ORDER)) {
            return KIND;
        }
        int done = now.things.get(thing, DONE);
        return (done == NONE ? now.day : done) - now.things.get(thing, DATE);
    }

    public int foretold(int shop) {
        return now.shops.holds(shop) ? forecast.firstDayAllDone(now, shop) : BAD;
    }

    // ---- texts, pay, days

    public int feed(int a, int b, int c) {
        if (!tape.hasRoom()) {
            return FULL;
        }
        tape.add(a);
        tape.add(b);
        tape.add(c);
        return tape.size();
    }

    public int trim(int n) {
        if (!isWithin(n, 0, tape.size())) {
            return BAD;
        }
        tape.cutTo(n);
        return n;
    }

    public int text(int day) {
        if (!isWithin(day, 0, LAST_DAY)) {
            tape.cutTo(0);
            return BAD;
        }
        int fault = reader.readAll();
        tape.cutTo(0);
        if (fault != NONE) {
            return -100 - fault;
        }
        if (now.texts.isFull()) {
            return FULL;
        }
        int text = now.texts.add();
        now.texts.set(text, FROM_DAY, day);
        reader.writeTo(now.texts, text);
        return text;
    }

    public int of(int text, int what) {
        if (!now.texts.holds(text) || !isWithin(what, 0, PARTS)) {
            return BAD;
        }
        return now.texts.get(text, what);
    }

    public int why(int key) {
        return isWithin(key, 0, KEYS - 1) ? now.textInForce(key) : BAD;
    }

    public int rules(int key, int a, int b, int c) {
        return isWithin(key, 0, KEYS - 1) ? rules.give(now, key, a, b, c) : BAD;
    }

    public int pay(int hand) {
        if (!now.hands.holds(hand)) {
            return BAD;
        }
        if (now.isFree(hand)) {
            return NO;
        }
        int victims = rules.share(now, hand, TO_VICTIMS);
        int saved = rules.share(now, hand, TO_SAVED);
        int coin = rules.share(now, hand, TO_COIN);
        now.hands.set(hand, OWES, now.hands.get(hand, OWES) - victims);
        now.addPence(hand, SAVED, saved);
        now.addPence(hand, COIN, coin);
        now.hands.set(hand, EARNED, 0);
        return coin;
    }

    public int takes(int hand, int what) {
        if (!now.hands.holds(hand) || !isWithin(what, TO_VICTIMS, TO_COIN)) {
            return BAD;
        }
        return now.isFree(hand) ? NO : rules.share(now, hand, what);
    }

    public int earn(int hand) {
        int refusal = refusalOfEvent(hand);
        if (refusal != 0) {
            return refusal;
        }
        int turns = now.hands.get(hand, TURNS);
        int since = turns - now.hands.get(hand, COUNTED);
        int given = rules.give(now, KEY_DAYS, since, now.hands.get(hand, SKILL), 0);
        int earned = Math.min(given, MOST_DAYS_EARNED);
        now.hands.set(hand, COUNTED, turns);
        if (earned > 0) {
            now.addEvent(hand, earned);
        }
        return earned;
    }

    public int lose(int hand, int n) {
        if (!isWithin(n, 1, 99)) {
            return BAD;
        }
        int refusal = refusalOfEvent(hand);
        return refusal != 0 ? refusal : now.addEvent(hand, -n);
    }

    /** Why no EVENT of this HAND can come, or 0. */
    private int refusalOfEvent(int hand) {
        if (!now.hands.holds(hand)) {
            return BAD;
        }
        if (now.isFree(hand)) {
            return NO;
        }
        return now.events.isFull() ? FULL : 0;
    }

    public int appeal(int event) {
        if (!now.events.holds(event)) {
            return BAD;
        }
        if (now.events.get(event, EVENT_DAYS) >= 0) {
            return KIND;
        }
        if (now.events.get(event, BACK_ON) != NONE || now.isFree(now.events.get(event, EVENT_HAND))) {
            return NO;
        }
        now.events.set(event, BACK_ON, now.day);
        return 1;
    }

    public int event(int event, int what) {
        if (!now.events.holds(event) || !isWithin(what, 0, BACK_ON)) {
            return BAD;
        }
        return now.events.get(event, what);
    }

    public int end(int hand, int known) {
        if (!now.hands.holds(hand) || !isWithin(known, 0, LAST_DAY)) {
            return BAD;
        }
        return now.endAsKnown(hand, known);
    }

    public int run(int n) {
        if (!isWithin(n, 1, 60)) {
            return BAD;
        }
        if (now.day + n > LAST_DAY) {
            return FULL;
        }
        for (int i = 0; i < n; i++) {
            days.pass(now);
        }
        return now.day;
    }

    // ---- searches, counts

    public int seed(int v) {
        if (!isWithin(v, 0, 65535)) {
            return BAD;
        }
        int was = now.seed;
        now.seed = v;
        return was;
    }

    public int search(int m) {
        if (!isWithin(m, 1, MOST_HANDS)) {
            return BAD;
        }
        int all = now.handsNotFree();
        int left = all;
        for (int i = 0; i < m && left != 0; i++) {
            left &= ~(1 << now.draw(left));
        }
        return all & ~left;
    }

    public int sheet(int sheet, int sort, int n) {
        return sheets.become(sheet, sort, n);
    }

    public int mark(int sheet, int place, int v) {
        return sheets.change(sheet, place, 0, v);
    }

    public int grow(int sheet, int place, int v) {
        return sheets.change(sheet, place, 1000, v);
    }

    public int copy(int from, int place, int to, int at, int many) {
        return sheets.carry(from, place, to, at, many);
    }

    public int odd(int place) {
        return sheets.oddAt(place);
    }

    // ---- rows, images

    public int tell(int v) {
        if (waits >= waiting.length) {
            return FULL;
        }
        waiting[waits] = v;
        waits++;
        return waits;
    }

    public int check(int n) {
        int told = waits;
        waits = 0;
        if (!isWithin(n, 1, 30)) {
            return BAD;
        }
        if (!hasImage) {
            return NO;
        }
        trial.becomeAs(image);
        for (int i = 0; i < n; i++) {
            days.pass(trial);
            if (!wasTold(2 * i, told, trial.sumOfEarned())) {
                return 1 + 2 * i;
            }
            if (!wasTold(2 * i + 1, told, trial.sumOfMade())) {
                return 2 + 2 * i;
            }
        }
        return told > 2 * n ? 1 + 2 * n : 0;
    }

    private boolean wasTold(int place, int told, int v) {
        return place >= 0 && place < told && place < waiting.length && waiting[place] == v;
    }

    public int keep() {
        image.becomeAs(now);
        hasImage = true;
        return now.day;
    }

    public int back() {
        if (!hasImage) {
            return NO;
        }
        now.becomeAs(image);
        return now.day;
    }

    public int count(int what) {
        switch (what) {
            case 0: return now.shops.rows();
            case 1: return now.hands.rows();
            case 2: return now.hands.rows() - Integer.bitCount(now.handsNotFree());
            case 3: return now.countInShops();
            case 4: return now.things.rows();
            case 5: return now.countOpenOrders();
            case 6: return now.texts.rows();
            case 7: return now.events.rows();
            case 8: return waits;
            case 9: return tape.size();
            case 10: return now.day;
            case 11: return now.seed;
            case 12: return now.countTools(NONE, OUT);
            case 13: return now.countTools(NONE, LOST);
            default: return BAD;
        }
    }

    private static boolean isWithin(int v, int least, int most) {
        return v >= least && v <= most;
    }

    private static boolean isKind(int kind) {
        return kind >= 0 && kind < KINDS;
    }

    private static boolean fitsKind(int kind, int a, int date) {
        if (kind < 0 || kind >= LEAST_AMOUNT.length || kind >= MOST_AMOUNT.length || kind >= MOST_DATE.length) {
            return false;
        }
        return isWithin(a, LEAST_AMOUNT[kind], MOST_AMOUNT[kind]) && isWithin(date, 0, MOST_DATE[kind]);
    }

    /** Rows with the same fields; a cell that is not there reads 0 and takes nothing. */
    private static final class Table {
        private final int fields;
        private final int[] cells;
        private int rows = 0;
        private final int most;

        Table(int most, int fields) {
            this.most = Math.max(0, most);
            this.fields = Math.max(0, fields);
            this.cells = new int[this.most * this.fields];
        }

        int rows() {
            return rows;
        }

        boolean isFull() {
            return rows >= most;
        }

        boolean holds(int row) {
            return row >= 0 && row < rows;
        }

        int get(int row, int field) {
            if (row < 0 || row >= rows || field < 0 || field >= fields) {
                return 0;
            }
            return cells[row * fields + field];
        }

        void set(int row, int field, int v) {
            if (row < 0 || row >= rows || field < 0 || field >= fields) {
                return;
            }
            cells[row * fields + field] = v;
        }

        /** Sets a cell and answers what it was. */
        int swap(int row, int field, int v) {
            int was = get(row, field);
            set(row, field, v);
            return was;
        }

        void raise(int row, int field, int by) {
            set(row, field, get(row, field) + by);
        }

        /** One more row, all 0: its number. The caller has asked isFull. */
        int add() {
            if (rows >= most) {
                return NONE;
            }
            // all cells behind the rows are 0, as a table only loses rows by becoming as another one that never had them
            rows++;
            return rows - 1;
        }

        void becomeAs(Table other) {
            if (other == null || other.cells.length != cells.length) {
                return;
            }
            System.arraycopy(other.cells, 0, cells, 0, cells.length);
            rows = other.rows;
        }
    }

    /** A pile of numbers: an empty one gives 0, a full one takes no more. */
    private static final class Pile {
        private final int[] cells = new int[TAPE_BYTES];
        private int size = 0;

        int size() {
            return size;
        }

        void clear() {
            size = 0;
        }

        void push(int v) {
            if (size < 0 || size >= cells.length) {
                return;
            }
            cells[size] = v;
            size++;
        }

        int at(int place) {
            return place >= 0 && place < size && place < cells.length ? cells[place] : 0;
        }

        int top() {
            return size > 0 && size <= cells.length ? cells[size - 1] : 0;
        }

        int pop() {
            if (size <= 0 || size > cells.length) {
                return 0;
            }
            size--;
            return cells[size];
        }
    }

    /** All that an IMAGE keeps, and what can be asked of it. */
    private static final class State {
        final Table shops = new Table(MOST_SHOPS, SHOP_FIELDS);
        final Table hands = new Table(MOST_HANDS, HAND_FIELDS);
        final Table things = new Table(MOST_THINGS, THING_FIELDS);
        final Table texts = new Table(MOST_TEXTS, TEXT_FIELDS);
        final Table events = new Table(MOST_EVENTS, EVENT_FIELDS);
        int day = 0;
        int seed = 0;

        void becomeAs(State other) {
            if (other == null) {
                return;
            }
            shops.becomeAs(other.shops);
            hands.becomeAs(other.hands);
            things.becomeAs(other.things);
            texts.becomeAs(other.texts);
            events.becomeAs(other.events);
            day = other.day;
            seed = other.seed;
        }

        boolean isFree(int hand) {
            return hands.get(hand, FREE) == 1;
        }

        int handsNotFree() {
            int bits = 0;
            for (int hand = 0; hand < hands.rows(); hand++) {
                bits |= isFree(hand) ? 0 : 1 << hand;
            }
            return bits;
        }

        boolean isBarred(int one, int other) {
            return (hands.get(one, BARS) >> other & 1) == 1;
        }

        void setBarred(int one, int other, boolean on) {
            int bit = 1 << other;
            int bars = hands.get(one, BARS);
            hands.set(one, BARS, on ? bars | bit : bars & ~bit);
        }

        boolean mayWork(int hand, int shop) {
            return !isFree(hand)
                && hands.get(hand, RISK) <= shops.get(shop, SHOP_RISK)
                && hands.get(hand, SKILL) >= shops.get(shop, LEVEL)
                && hands.get(hand, COURT) != day
                && shops.get(shop, LOCKED) == 0;
        }

        /** The HANDS in a SHOP, as bits. */
        int membersOf(int shop) {
            int bits = 0;
            for (int hand = 0; hand < hands.rows(); hand++) {
                bits |= hands.get(hand, SHOP) == shop ? 1 << hand : 0;
            }
            return bits;
        }

        boolean hasRoomFor(int hand, int shop) {
            int others = membersOf(shop) & ~(1 << hand);
            return Integer.bitCount(others) < shops.get(shop, PLACES) && (others & hands.get(hand, BARS)) == 0;
        }

        void move(int hand, int shop) {
            if (hands.get(hand, SHOP) != shop) {
                takeBack(hand, HANGS);
                hands.set(hand, SHOP, shop);
            }
        }

        /** What is OUT to a HAND hangs again, or is LOST. */
        void takeBack(int hand, int where) {
            for (int thing = 0; thing < things.rows(); thing++) {
                if (isOutTo(thing, hand)) {
                    things.set(thing, WHERE, where);
                    things.set(thing, HOLDER, NONE);
                }
            }
        }

        boolean isOutTo(int thing, int hand) {
            return things.get(thing, WHERE) == OUT && things.get(thing, HOLDER) == hand;
        }

        int countOutTo(int hand) {
            int n = 0;
            for (int thing = 0; thing < things.rows(); thing++) {
                n += isOutTo(thing, hand) ? 1 : 0;
            }
            return n;
        }

        int countInShops() {
            int n = 0;
            for (int hand = 0; hand < hands.rows(); hand++) {
                n += hands.get(hand, SHOP) == NONE ? 0 : 1;
            }
            return n;
        }

        boolean isOfKind(int thing, int kind) {
            int above = things.get(thing, THING_KIND);
            for (int i = 0; i < KINDS && above >= 0 && above < KIND_ABOVE.length; i++) {
                if (above == kind) {
                    return true;
                }
                above = KIND_ABOVE[above];
            }
            return false;
        }

        boolean isToolOf(int thing, int shop) {
            return things.get(thing, THING_SHOP) == shop && isOfKind(thing, TOOL);
        }

        /** TOOLS of a SHOP (NONE: of all) that are somewhere (NONE: anywhere). */
        int countTools(int shop, int where) {
            int n = 0;
            for (int thing = 0; thing < things.rows(); thing++) {
                boolean asked = (shop == NONE || things.get(thing, THING_SHOP) == shop)
                    && (where == NONE || things.get(thing, WHERE) == where);
                n += asked && isOfKind(thing, TOOL) ? 1 : 0;
            }
            return n;
        }

        /** Whether a TOOL may go OUT to a HAND. */
        boolean mayHave(int hand, int tool) {
            int shop = things.get(tool, THING_SHOP);
            return things.get(tool, WHERE) == HANGS
                && hands.get(hand, SHOP) == shop
                && shops.get(shop, SHUT) == 0
                && shops.get(shop, LOCKED) == 0
                && !(isOfKind(tool, BLADE) && hands.get(hand, RISK) > things.get(tool, AMOUNT));
        }

        /** A BELL for one TOOL: whether what was seen of it agrees. */
        boolean agreesAtBell(int tool, boolean seen) {
            int where = things.get(tool, WHERE);
            boolean missed = where == HANGS && !seen;
            if (missed && things.get(tool, MISSED) == 1) {
                things.set(tool, WHERE, LOST);
            }
            things.set(tool, MISSED, missed ? 1 : 0);
            return !missed && !(where == OUT && seen);
        }

        boolean isOpenOrder(int thing) {
            return things.get(thing, DONE) == NONE && isOfKind(thing, ORDER);
        }

        int countOpenOrders() {
            int n = 0;
            for (int thing = 0; thing < things.rows(); thing++) {
                n += isOpenOrder(thing) ? 1 : 0;
            }
            return n;
        }

        /** The OPEN ORDER of a SHOP that comes next behind another one (NONE: the first), or NONE. */
        int nextOrder(int shop, int behind) {
            int next = NONE;
            for (int thing = 0; thing < things.rows(); thing++) {
                if (things.get(thing, THING_SHOP) == shop && isOpenOrder(thing)
                    && (behind == NONE || comesAhead(behind, thing)) && (next == NONE || comesAhead(thing, next))) {
                    next = thing;
                }
            }
            return next;
        }

        private boolean comesAhead(int one, int other) {
            int oneDate = things.get(one, DATE);
            int otherDate = things.get(other, DATE);
            return oneDate < otherDate || oneDate == otherDate && one < other;
        }

        /** The TEXT of a KEY that counts on the DAY that is open, or NONE. */
        int textInForce(int key) {
            int best = NONE;
            for (int text = 0; text < texts.rows(); text++) {
                int from = texts.get(text, FROM_DAY);
                if (texts.get(text, KEY) == key && from <= day && (best == NONE || from >= texts.get(best, FROM_DAY))) {
                    best = text;
                }
            }
            return best;
        }

        void addPence(int hand, int field, int pence) {
            hands.set(hand, field, Math.min(MOST_PENCE, hands.get(hand, field) + pence));
        }

        int addEvent(int hand, int daysOff) {
            int event = events.add();
            events.set(event, EVENT_HAND, hand);
            events.set(event, EVENT_DAYS, daysOff);
            events.set(event, TOLD_ON, day);
            events.set(event, BACK_ON, NONE);
            return event;
        }

        int endAsKnown(int hand, int known) {
            int end = hands.get(hand, TERM);
            for (int event = 0; event < events.rows(); event++) {
                if (events.get(event, EVENT_HAND) == hand && countsOn(event, known)) {
                    end -= events.get(event, EVENT_DAYS);
                }
            }
            return end;
        }

        private boolean countsOn(int event, int known) {
            int backOn = events.get(event, BACK_ON);
            return events.get(event, TOLD_ON) <= known && (backOn == NONE || backOn > known);
        }

        /** Draws one of those left (bits): its number. */
        int draw(int left) {
            seed = (seed * 25173 + 13849) % 65536;
            int n = Integer.bitCount(left);
            int place = n > 0 ? seed % n : 0;
            for (int hand = 0; hand < MOST_HANDS; hand++) {
                boolean isLeft = (left >> hand & 1) == 1;
                if (isLeft && place == 0) {
                    return hand;
                }
                place -= isLeft ? 1 : 0;
            }
            return 0;
        }

        int sumOfEarned() {
            int sum = 0;
            for (int hand = 0; hand < hands.rows(); hand++) {
                sum += hands.get(hand, EARNED);
            }
            return sum;
        }

        int sumOfMade() {
            int sum = 0;
            for (int shop = 0; shop < shops.rows(); shop++) {
                sum += shops.get(shop, MADE);
            }
            return sum;
        }
    }

    /** What the RULES give, and how PAY is taken apart by them. */
    private static final class Rules {
        private final Pile values = new Pile();

        int give(State state, int key, int a, int b, int c) {
            int text = state.textInForce(key);
            if (text == NONE) {
                return key == KEY_PAY ? a : 0;
            }
            return Math.max(0, Math.min(MOST_RULE, workOut(state.texts, text, a, b, c)));
        }

        private int workOut(Table texts, int text, int a, int b, int c) {
            values.clear();
            int end = FIRST_STEP + texts.get(text, STEPS);
            for (int field = FIRST_STEP; field < end; field++) {
                int step = texts.get(text, field);
                if (step < NAME_STEP) {
                    values.push(step);
                } else if (step < SIGN_STEP) {
                    values.push(step == NAME_STEP ? a : step == NAME_STEP + 1 ? b : c);
                } else if (step == SIGN_STEP + '!') {
                    values.push(isTrue(values.pop() == 0));
                } else {
                    int right = values.pop();
                    int left = values.pop();
                    values.push(join(step - SIGN_STEP, left, right));
                }
            }
            return values.pop();
        }

        private static int join(int sign, int left, int right) {
            switch (sign) {
                case '+': return left + right;
                case '-': return left - right;
                case '*': return left * right;
                case '/': return right == 0 ? 0 : left / right;
                case '<': return isTrue(left < right);
                case '=': return isTrue(left == right);
                case '>': return isTrue(left > right);
                case '&': return isTrue(left != 0 && right != 0);
                case '|': return isTrue(left != 0 || right != 0);
                default: return 0;
            }
        }

        private static int isTrue(boolean it) {
            return it ? 1 : 0;
        }

        /** How much of EARNED goes where, by what takes() calls it. */
        int share(State state, int hand, int what) {
            int earned = state.hands.get(hand, EARNED);
            int owes = state.hands.get(hand, OWES);
            int daysToTerm = state.hands.get(hand, TERM) - state.day;
            int aboveLeast = Math.max(0, earned - give(state, KEY_LEAST, earned, 0, 0));
            int victims = Math.min(Math.min(give(state, KEY_VICTIM, earned, owes, 0), owes), aboveLeast);
            int saved = Math.min(give(state, KEY_SAVE, earned, daysToTerm, 0), aboveLeast - victims);
            switch (what) {
                case TO_VICTIMS: return victims;
                case TO_SAVED: return saved;
                default: return earned - victims - saved;
            }
        }
    }

    /** How a DAY goes by. */
    private static final class Days {
        private final Rules rules;

        Days(Rules rules) {
            this.rules = rules;
        }

        void pass(State state) {
            for (int hand = 0; hand < state.hands.rows(); hand++) {
                work(state, hand);
            }
            for (int shop = 0; shop < state.shops.rows(); shop++) {
                finishOrders(state, shop);
                state.shops.set(shop, LOCKED, Math.max(0, state.shops.get(shop, LOCKED) - 1));
            }
            for (int hand = 0; hand < state.hands.rows(); hand++) {
                if (!state.isFree(hand) && state.endAsKnown(hand, state.day) <= state.day) {
                    openGate(state, hand);
                }
            }
            state.day++;
        }

        private void work(State state, int hand) {
            int shop = state.hands.get(hand, SHOP);
            if (shop == NONE || state.isFree(hand) || state.hands.get(hand, COURT) == state.day) {
                return;
            }
            int skill = state.hands.get(hand, SKILL);
            if (state.shops.get(shop, LOCKED) > 0) {
                state.addPence(hand, EARNED, rules.give(state, KEY_LOST, skill, 0, 0));
                return;
            }
            int pieces = state.shops.get(shop, RATE) + skill;
            int risk = state.hands.get(hand, RISK);
            state.addPence(hand, EARNED, rules.give(state, KEY_PAY, pieces, skill, risk));
            state.shops.raise(shop, MADE, pieces);
            state.hands.raise(hand, TURNS, 1);
            learn(state, hand);
        }

        private void learn(State state, int hand) {
            int learnt = state.hands.get(hand, LEARNT) + 1;
            if (learnt == 10) {
                learnt = 0;
                state.hands.set(hand, SKILL, Math.min(MOST_SKILL, state.hands.get(hand, SKILL) + 1));
            }
            state.hands.set(hand, LEARNT, learnt);
        }

        private void finishOrders(State state, int shop) {
            for (int i = 0; i < MOST_THINGS; i++) {
                int order = state.nextOrder(shop, NONE);
                if (order == NONE) {
                    return;
                }
                int pieces = state.things.get(order, AMOUNT);
                if (state.shops.get(shop, MADE) < pieces) {
                    return;
                }
                state.things.set(order, DONE, state.day);
                state.shops.raise(shop, MADE, -pieces);
            }
        }

        private void openGate(State state, int hand) {
            state.addPence(hand, COIN, state.hands.swap(hand, EARNED, 0));
            state.addPence(hand, COIN, state.hands.swap(hand, SAVED, 0));
            state.takeBack(hand, LOST);
            state.hands.set(hand, SHOP, NONE);
            state.hands.set(hand, FREE, 1);
        }
    }

    /** FORETOLD: how the OPEN ORDERS of a SHOP would get DONE. */
    private static final class Forecast {
        private static final int MOST_FORETOLD = 1000;
        private final int[] pieces = new int[MOST_THINGS];
        private final int[] skill = new int[MOST_HANDS];
        private final int[] learnt = new int[MOST_HANDS];
        private int orders = 0;
        private int workers = 0;

        int firstDayAllDone(State state, int shop) {
            listOrders(state, shop);
            listWorkers(state, shop);
            int rate = state.shops.get(shop, RATE);
            int made = state.shops.get(shop, MADE);
            int done = 0;
            for (int later = 0; later < MOST_FORETOLD; later++) {
                made += madeOn(later, rate);
                while (done < orders && done < pieces.length && made >= pieces[done]) {
                    made -= pieces[done];
                    done++;
                }
                if (done >= orders) {
                    return state.day + later;
                }
            }
            return NONE;
        }

        private void listOrders(State state, int shop) {
            orders = 0;
            int order = state.nextOrder(shop, NONE);
            while (order != NONE && orders < pieces.length) {
                pieces[orders] = state.things.get(order, AMOUNT);
                orders++;
                order = state.nextOrder(shop, order);
            }
        }

        private void listWorkers(State state, int shop) {
            workers = 0;
            for (int hand = 0; hand < state.hands.rows() && workers < skill.length && workers < learnt.length; hand++) {
                if (state.hands.get(hand, SHOP) == shop) {
                    skill[workers] = state.hands.get(hand, SKILL);
                    learnt[workers] = state.hands.get(hand, LEARNT);
                    workers++;
                }
            }
        }

        /** The PIECES of a DAY so many days on: every ten TURNS make one SKILL more. */
        private int madeOn(int later, int rate) {
            int sum = 0;
            for (int i = 0; i < workers && i < skill.length && i < learnt.length; i++) {
                sum += rate + Math.min(MOST_SKILL, skill[i] + (learnt[i] + later) / 10);
            }
            return sum;
        }
    }

    /** THE FILLING: all ways are tried in the order of the last rule, but for those that cannot be better. */
    private static final class Filling {
        private static final int WIDTH = MOST_HANDS + 1;
        private final int[] choices = new int[MOST_HANDS];
        private final int[] bars = new int[MOST_HANDS];
        private final int[] turns = new int[MOST_HANDS];
        private final int[] room = new int[MOST_SHOPS];
        private final int[] members = new int[MOST_SHOPS];
        private final int[] tried = new int[MOST_HANDS];
        private final int[] best = new int[MOST_HANDS];
        // of the HANDS from one on: how many have a choice, and the least sum of TURNS of so many of these
        private final int[] able = new int[WIDTH];
        private final int[] leastTurns = new int[WIDTH * WIDTH];
        private final int[] sorted = new int[WIDTH];
        private int hands = 0;
        private int bestCount = 0;
        private int bestTurns = 0;

        int placed() {
            return bestCount;
        }

        int turns() {
            return bestTurns;
        }

        int shopOf(int hand) {
            return hand >= 0 && hand < hands && hand < best.length ? best[hand] : NONE;
        }

        void find(State state) {
            hands = Math.min(MOST_HANDS, state.hands.rows());
            for (int shop = 0; shop < MOST_SHOPS; shop++) {
                room[shop] = state.shops.get(shop, PLACES);
                members[shop] = 0;
            }
            for (int hand = 0; hand < hands; hand++) {
                choices[hand] = choicesOf(state, hand);
                bars[hand] = state.hands.get(hand, BARS);
                turns[hand] = state.hands.get(hand, TURNS);
            }
            sumLeastTurns();
            bestCount = -1;
            bestTurns = 0;
            place(0, 0, 0);
        }

        private static int choicesOf(State state, int hand) {
            int bits = 0;
            for (int shop = 0; shop < state.shops.rows(); shop++) {
                bits |= state.mayWork(hand, shop) ? 1 << shop : 0;
            }
            return bits;
        }

        private void sumLeastTurns() {
            int n = 0;
            able[hands] = 0;
            leastTurns[hands * WIDTH] = 0;
            for (int hand = hands - 1; hand >= 0; hand--) {
                if (choices[hand] != 0) {
                    sortIn(turns[hand], n);
                    n++;
                }
                able[hand] = n;
                int sum = 0;
                for (int many = 0; many <= n && many < sorted.length; many++) {
                    leastTurns[hand * WIDTH + many] = sum;
                    sum += sorted[many];
                }
            }
        }

        private void sortIn(int v, int n) {
            if (n < 0 || n >= sorted.length) {
                return;
            }
            int place = n;
            for (; place > 0 && sorted[place - 1] > v; place--) {
                sorted[place] = sorted[place - 1];
            }
            sorted[place] = v;
        }

        /** Tries all ways for this HAND and those behind it: no deeper than there are HANDS. */
        private void place(int hand, int count, int sum) {
            if (!canBeBetter(hand, count, sum)) {
                return;
            }
            if (hand < 0 || hand >= hands) {
                bestCount = count;
                bestTurns = sum;
                System.arraycopy(tried, 0, best, 0, tried.length);
                return;
            }
            for (int shop = 0; shop < MOST_SHOPS; shop++) {
                placeIn(hand, shop, count, sum);
            }
            leaveOut(hand, count, sum);
        }

        private void placeIn(int hand, int shop, int count, int sum) {
            if (!fits(hand, shop)) {
                return;
            }
            tried[hand] = shop;
            room[shop]--;
            members[shop] |= 1 << hand;
            place(hand + 1, count + 1, sum + turns[hand]);
            members[shop] &= ~(1 << hand);
            room[shop]++;
        }

        private void leaveOut(int hand, int count, int sum) {
            if (hand < 0 || hand >= tried.length) {
                return;
            }
            tried[hand] = NONE;
            place(hand + 1, count, sum);
        }

        private boolean fits(int hand, int shop) {
            if (hand < 0 || hand >= MOST_HANDS || shop < 0 || shop >= MOST_SHOPS) {
                return false;
            }
            return (choices[hand] >> shop & 1) == 1 && room[shop] > 0 && (members[shop] & bars[hand]) == 0;
        }

        /** What comes first stays ahead of what is only as good, as it has the lesser SHOPS. */
        private boolean canBeBetter(int hand, int count, int sum) {
            if (hand < 0 || hand >= WIDTH) {
                return false;
            }
            int most = count + Math.min(able[hand], room[0] + room[1] + room[2]);
            int missing = bestCount - count;
            if (most != bestCount || missing < 0 || missing >= WIDTH) {
                return most > bestCount;
            }
            return sum + leastTurns[hand * WIDTH + missing] < bestTurns;
        }
    }

    /** THE TAPE. */
    private static final class Tape {
        private final int[] bytes = new int[TAPE_BYTES];
        private int size = 0;

        int size() {
            return size;
        }

        boolean hasRoom() {
            return size + FEED_BYTES <= bytes.length;
        }

        void add(int four) {
            for (int shift = 24; shift >= 0 && size >= 0 && size < bytes.length; shift -= 8) {
                bytes[size] = four >> shift & 255;
                size++;
            }
        }

        void cutTo(int n) {
            size = Math.max(0, Math.min(n, size));
        }

        /** A byte, or -1 behind the last one. */
        int at(int place) {
            return place >= 0 && place < size && place < bytes.length ? bytes[place] : -1;
        }
    }

    /** Reads THE TAPE as a TEXT, from its start on, into the steps that work it out (what is joined, then the sign). */
    private static final class Reader {
        private static final int END = 0, WORD = 1, NUMBER = 2, SIGN = 3, STUCK = 4;
        private static final int MOST_NESTED = 8;
        private static final int BINDS_NOT = 0, BINDS_LEAST = 1, BINDS_TEST = 3;
        private final Tape tape;
        private final Pile steps = new Pile();
        private final Pile signs = new Pile();
        private int key = 0;
        private int parts = 0;
        // the word or sign that is read: where it starts, where it goes on, what it is; value: a NUMBER, or a sign's byte
        private int start = 0;
        private int next = 0;
        private int token = END;
        private int value = 0;
        private boolean partDue = true;
        private int openBrackets = 0;
        private int openNots = 0;

        Reader(Tape tape) {
            this.tape = tape;
        }

        /** The place of the FAULT, or NONE. */
        int readAll() {
            startAnew();
            goOn();
            key = keyHere();
            if (key == NONE) {
                return start;
            }
            goOn();
            for (int i = 0; i < TAPE_BYTES && token != END; i++) {
                boolean fits = partDue ? readPart() : readSign();
                if (!fits) {
                    return start;
                }
                goOn();
            }
            if (partDue || openBrackets > 0) {
                return start;
            }
            settle(BINDS_LEAST);
            return NONE;
        }

        void writeTo(Table texts, int text) {
            texts.set(text, KEY, key);
            texts.set(text, PARTS, parts);
            texts.set(text, STEPS, steps.size());
            for (int i = 0; i < steps.size(); i++) {
                texts.set(text, FIRST_STEP + i, steps.at(i));
            }
        }

        private void startAnew() {
            steps.clear();
            signs.clear();
            parts = 0;
            next = 0;
            token = SIGN;
            partDue = true;
            openBrackets = 0;
            openNots = 0;
        }

        /** Goes on to the next word or sign. */
        private void goOn() {
            boolean behindWord = token == WORD || token == NUMBER;
            int behind = next;
            while (next < tape.size() && tape.at(next) == ' ') {
                next++;
            }
            start = next;
            int first = tape.at(start);
            if (first < 0) {
                token = END;
            } else if (isLetter(first)) {
                token = WORD;
                skipLetters();
            } else if (isDigit(first)) {
                token = NUMBER;
                readDigits();
            } else {
                token = SIGN;
                value = first;
                next++;
            }
            if (behindWord && start == behind && (token == WORD || token == NUMBER)) {
                token = STUCK;
            }
        }

        private void skipLetters() {
            while (next < tape.size() && isLetter(tape.at(next))) {
                next++;
            }
        }

        private void readDigits() {
            value = 0;
            while (next < tape.size() && isDigit(tape.at(next))) {
                // the value of a NUMBER that is too long is never used, but the row of digits must not wrap it
                value = Math.min(MOST_RULE, value * 10 + tape.at(next) - '0');
                next++;
            }
        }

        private static boolean isLetter(int it) {
            return it >= 'a' && it <= 'z';
        }

        private static boolean isDigit(int it) {
            return it >= '0' && it <= '9';
        }

        private int keyHere() {
            for (int it = 0; it < KEYS && token == WORD; it++) {
                if (isSpelt(wordOf(it))) {
                    return it;
                }
            }
            return NONE;
        }

        private boolean isSpelt(String word) {
            if (word == null || word.length() != next - start) {
                return false;
            }
            for (int i = 0; i < word.length(); i++) {
                if (word.charAt(i) != tape.at(start + i)) {
                    return false;
                }
            }
            return true;
        }

        private static String wordOf(int key) {
            switch (key) {
                case KEY_PAY: return "pay";
                case KEY_LOST: return "lost";
                case KEY_VICTIM: return "victim";
                case KEY_SAVE: return "save";
                case KEY_LEAST: return "least";
                default: return "days";
            }
        }

        private static String namesOf(int key) {
            switch (key) {
                case KEY_PAY: return "nkr";
                case KEY_LOST: return "k";
                case KEY_VICTIM: return "go";
                case KEY_SAVE: return "gt";
                case KEY_LEAST: return "g";
                default: return "wk";
            }
        }

        /** Takes what a PART can start with, where one is due: whether it is that. */
        private boolean readPart() {
            switch (token) {
                case NUMBER: return next - start <= 4 && takePart(value);
                case WORD: return takeName();
                case SIGN: return takeOpening();
                default: return false;
            }
        }

        private boolean takeName() {
            int name = next - start == 1 ? namesOf(key).indexOf((char) tape.at(start)) : -1;
            return name >= 0 && takePart(NAME_STEP + name);
        }

        private boolean takePart(int step) {
            steps.push(step);
            parts++;
            endPart();
            return true;
        }

        private boolean takeOpening() {
            if (value == '!' && openNots < MOST_NESTED) {
                openNots++;
            } else if (value == '(' && openBrackets < MOST_NESTED) {
                openBrackets++;
            } else {
                return false;
            }
            signs.push(value);
            return true;
        }

        /** Takes what can stand behind a PART: whether it is that. */
        private boolean readSign() {
            if (token != SIGN) {
                return false;
            }
            if (value == ')') {
                return takeClosing();
            }
            int binds = bindsOf(value);
            settle(binds == BINDS_TEST ? binds + 1 : Math.max(binds, BINDS_LEAST));
            if (binds == BINDS_NOT || binds == BINDS_TEST && bindsOf(signs.top()) == BINDS_TEST) {
                return false;
            }
            signs.push(value);
            partDue = true;
            return true;
        }

        private boolean takeClosing() {
            if (openBrackets == 0) {
                return false;
            }
            settle(BINDS_LEAST);
            signs.pop();
            openBrackets--;
            endPart();
            return true;
        }

        /** Behind a PART each ! that stands right ahead of it is at its end, too. */
        private void endPart() {
            for (; openNots > 0 && signs.top() == '!'; openNots--) {
                steps.push(SIGN_STEP + signs.pop());
            }
            partDue = false;
        }

        /** Signs that bind so much, or more, have both their sides now. */
        private void settle(int least) {
            for (int i = 0; i < TAPE_BYTES && bindsOf(signs.top()) >= least; i++) {
                steps.push(SIGN_STEP + signs.pop());
            }
        }

        private static int bindsOf(int sign) {
            switch (sign) {
                case '|': return 1;
                case '&': return 2;
                case '<': case '=': case '>': return BINDS_TEST;
                case '+': case '-': return 4;
                case '*': case '/': return 5;
                default: return BINDS_NOT;
            }
        }
    }

    /** The COUNTS: rows of bytes, shorts or longs. */
    private static final class Sheets {
        private static final int SHEETS = 4, MOST_PLACES = 24;
        private static final int MISSING = -1, BYTES = 0, SHORTS = 1, LONGS = 2;
        private final int[] sorts = {MISSING, MISSING, MISSING, MISSING};
        private final int[] sizes = new int[SHEETS];
        private final long[] cells = new long[SHEETS * MOST_PLACES];

        int become(int sheet, int sort, int n) {
            if (!isSheet(sheet) || !isWithin(sort, MISSING, LONGS) || sort != MISSING && n > MOST_PLACES) {
                return BAD;
            }
            if (sort != MISSING && n < 0) {
                return SIZE;
            }
            sorts[sheet] = sort;
            sizes[sheet] = sort == MISSING ? 0 : n;
            for (int place = 0; place < MOST_PLACES; place++) {
                cells[sheet * MOST_PLACES + place] = 0;
            }
            return sizes[sheet];
        }

        /** A place becomes so many times as much, and v more. */
        int change(int sheet, int place, int times, int v) {
            if (!isSheet(sheet)) {
                return BAD;
            }
            if (sorts[sheet] == MISSING) {
                return NOTHING;
            }
            if (!hasPlace(sheet, place)) {
                return INDEX;
            }
            int cell = sheet * MOST_PLACES + place;
            cells[cell] = narrowed(sorts[sheet], cells[cell] * times + v);
            return (int) cells[cell];
        }

        int carry(int from, int place, int to, int at, int many) {
            if (!isSheet(from) || !isSheet(to)) {
                return BAD;
            }
            if (sorts[from] == MISSING || sorts[to] == MISSING) {
                return NOTHING;
            }
            if (sorts[from] != sorts[to]) {
                return KIND;
            }
            if (!hasRow(from, place, many) || !hasRow(to, at, many)) {
                return INDEX;
            }
            System.arraycopy(cells, from * MOST_PLACES + place, cells, to * MOST_PLACES + at, many);
            return many;
        }

        int oddAt(int place) {
            if (place < 0) {
                return BAD;
            }
            int first = NONE;
            int differ = 0;
            for (int sheet = 0; sheet < SHEETS; sheet++) {
                if (hasPlace(sheet, place)) {
                    first = first == NONE ? sheet : first;
                    differ += cells[sheet * MOST_PLACES + place] == cells[first * MOST_PLACES + place] ? 0 : 1;
                }
            }
            return first == NONE ? NONE : differ;
        }

        private static boolean isSheet(int sheet) {
            return sheet >= 0 && sheet < SHEETS;
        }

        private boolean hasPlace(int sheet, int place) {
            return place >= 0 && place < sizes[sheet];
        }

        private boolean hasRow(int sheet, int place, int many) {
            return place >= 0 && many >= 0 && many <= sizes[sheet] && place <= sizes[sheet] - many;
        }

        private static long narrowed(int sort, long v) {
            switch (sort) {
                case BYTES: return (byte) v;
                case SHORTS: return (short) v;
                default: return v;
            }
        }
    }
}
