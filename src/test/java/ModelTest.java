import java.util.ArrayList;
import java.util.List;
import java.util.Random;

/** All promises: drawn runs of up to 512 calls, each answer against the Model's. */
public final class ModelTest {
    private static final int NONE = PrisonShops.NONE;
    private static final String[] TEXTS = {"pay n*4+k", "pay n*(2+r)-k", "pay 9999", "pay r", "pay !n", "lost k+k", "lost 7",
        "victim g/3", "victim o", "victim o/2+1", "save t", "save g/4", "save 9999", "least 30", "least g/2", "least g+1",
        "days w/2", "days w/3+k", "days w", "days (w>9)*w", "days 0", "days 9999", "pay", "days w w", "lost n", "save g)"};
    private static final int[] ODD = {-1, 0, 1, 60, 61, 99, 100, 999, 1000, 9999, 10000, 65535, 65536, NONE,
        PrisonShops.BAD, Integer.MAX_VALUE, Integer.MIN_VALUE};

    private final Random random;
    private final PrisonShops x = new PrisonShops();
    private final Model model = new Model();
    private final List<String> run = new ArrayList<>();
    private boolean right = true;

    private ModelTest(long seed) {
        random = new Random(seed);
    }

    public static void main(String[] args) {
        int runs = args.length > 0 ? Integer.parseInt(args[0]) : 1500;
        int first = args.length > 1 ? Integer.parseInt(args[1]) : 0;
        for (int i = first; i < first + runs; i++) {
            new ModelTest(i).tryOne(i);
        }
        Due.end();
    }

    private void tryOne(int seed) {
        int most = 512;
        begin();
        while (right && run.size() < most) {
            act();
        }
        if (!right) {
            System.out.println("drawn run " + seed + " went wrong: " + String.join("; ", run));
        }
    }

    private void ask(String name, int... v) {
        if (!right || run.size() >= 512) {
            return;
        }
        int call = Calls.numberOf(name);
        StringBuilder told = new StringBuilder(name).append('(');
        for (int i = 0; i < v.length; i++) {
            told.append(i == 0 ? "" : ", ").append(v[i]);
        }
        run.add(told.append(')').toString());
        int due = model.call(call, v);
        int got = Calls.make(x, call, v);
        right = got == due;
        Due.is(told.toString(), got, due);
    }

    private boolean oneOf(int n) {
        return random.nextInt(n) == 0;
    }

    /** Mostly below a bound, now and then something odd. */
    private int some(int bound) {
        return oneOf(40) ? odd() : oneOf(25) ? bound : random.nextInt(bound);
    }

    private int odd() {
        return oneOf(4) ? random.nextInt() : ODD[random.nextInt(ODD.length)];
    }

    /** Any call with numbers that mostly fit nowhere. */
    private void actOddly() {
        int call = random.nextInt(Calls.NAMES.length);
        int[] v = new int[5];
        for (int i = 0; i < v.length; i++) {
            v[i] = oneOf(2) ? odd() : random.nextInt(4);
        }
        ask(Calls.NAMES[call], v);
    }

    private int shop() {
        return some(Math.max(1, model.shops.size()));
    }

    private int hand() {
        return some(Math.max(1, model.hands.size()));
    }

    private int thing() {
        return some(Math.max(1, model.things.size()));
    }

    private int event() {
        return some(Math.max(1, model.events.size()));
    }

    private void begin() {
        for (int n = random.nextInt(5); n > 0; n--) {
            ask("shop", 1 + some(5), oneOf(2) ? 3 : some(4), oneOf(2) ? 0 : some(4));
        }
        for (int n = random.nextInt(oneOf(12) ? 11 : 7); n > 0; n--) {
            ask("hand", some(4), some(4), oneOf(2) ? 1 + some(60) : 1 + some(999));
        }
        for (int n = random.nextInt(3); n > 0; n--) {
            ask("bar", hand(), hand(), 1);
        }
        if (!oneOf(3)) {
            ask("fill");
        }
        for (int n = random.nextInt(12); n > 0; n--) {
            newThing();
        }
    }

    private void newThing() {
        int kind = some(6);
        int most = kind == 4 || kind == 5 ? oneOf(3) ? 10001 : 90 : kind == 2 || kind == 3 ? 4 : 1;
        ask("thing", kind, shop(), some(most), kind == 5 ? oneOf(8) ? some(1001) : model.day + random.nextInt(9) : oneOf(30) ? 1 : 0);
    }

    private void act() {
        switch (random.nextInt(12)) {
            case 0: actOnShops(); break;
            case 1: case 2: actOnHands(); break;
            case 3: case 4: case 5: actOnThings(); break;
            case 6: case 7: actOnTexts(); break;
            case 8: case 9: actOnDays(); break;
            case 10: actOnCounts(); break;
            default: actOnImages();
        }
        if (oneOf(9)) {
            look();
        }
        if (oneOf(12)) {
            actOddly();
        }
        if (oneOf(70)) {
            lookAtAll();
        }
    }

    private void actOnShops() {
        switch (random.nextInt(6)) {
            case 0: ask("shop", 1 + some(5), some(4), some(4)); break;
            case 1: ask("rate", shop(), oneOf(3) ? some(100) : some(6)); break;
            case 2: ask("lock", shop(), oneOf(5) ? some(100) : some(4)); break;
            default: ask("has", shop(), some(11));
        }
    }

    private void actOnHands() {
        switch (random.nextInt(11)) {
            case 0: ask("hand", some(4), some(4), oneOf(2) ? 1 + some(60) : 1 + some(999)); break;
            case 1: ask("be", hand(), 9, oneOf(4) ? NONE : oneOf(6) ? some(1001) : model.day + random.nextInt(3)); break;
            case 2: ask("be", hand(), oneOf(2) ? 3 : some(12), oneOf(3) ? some(10000) : some(4)); break;
            case 3: ask("bar", hand(), hand(), some(2)); break;
            case 4: ask("may", hand(), shop()); break;
            case 5: case 6: ask("put", hand(), oneOf(6) ? NONE : shop()); break;
            case 7: if (model.hands.size() < 8 || oneOf(4)) ask("filling", some(2 + model.hands.size())); break;
            case 8: if (model.hands.size() < 8 || oneOf(4)) ask("fill"); break;
            case 9: ask("never"); break;
            default: ask("is", hand(), some(12));
        }
    }

    private void actOnThings() {
        switch (random.nextInt(10)) {
            case 0: newThing(); break;
            case 1: ask("told", thing(), some(7)); break;
            case 2: ask("as", thing(), some(6)); break;
            case 3: case 4: takeOut(); break;
            case 5: ask("hang", thing()); break;
            case 6: case 7: ringBell(); break;
            case 8: ask("who", shop()); break;
            default: ask(oneOf(2) ? "late" : "foretold", oneOf(2) ? thing() : shop());
        }
    }

    private void takeOut() {
        int thing = thing();
        int hand = hand();
        if (thing >= 0 && thing < model.things.size() && !oneOf(4)) {
            for (Model.Hand h : model.hands) {
                hand = h.shop == model.things.get(thing).shop && oneOf(2) ? h.number : hand;
            }
        }
        ask("out", thing, hand);
    }

    /** Mostly what is true, so that doors open again, with a bit wrong now and then. */
    private void ringBell() {
        int shop = shop();
        int seen = 0;
        int tools = 0;
        for (Model.Thing t : model.things) {
            if (shop >= 0 && shop < model.shops.size() && t.shop == model.shops.get(shop) && t.kind >= 1 && t.kind <= 3) {
                seen |= t.holder == null && !t.lost ? 1 << tools : 0;
                tools++;
            }
        }
        seen ^= oneOf(3) ? 1 << random.nextInt(tools + 1) : 0;
        seen &= oneOf(4) ? random.nextInt() : -1;
        ask("bell", shop, seen);
        if (oneOf(4)) {
            ask("bell", shop, seen);
        }
    }

    private void feed(String text) {
        if (oneOf(6)) {
            ask("trim", 0);
        }
        int was = model.tape.length();
        for (int i = 0; i < text.length(); i += 12) {
            int[] v = new int[3];
            for (int k = 0; k < 12; k++) {
                v[k / 4] = v[k / 4] << 8 | (i + k < text.length() ? text.charAt(i + k) : 32);
            }
            ask("feed", v);
        }
        ask("trim", oneOf(9) ? some(97) : Math.min(was + text.length(), model.tape.length()));
    }

    private void actOnTexts() {
        switch (random.nextInt(12)) {
            case 0:
                feed(TEXTS[random.nextInt(TEXTS.length)]);
                ask("text", oneOf(12) ? some(1001) : Math.max(0, model.day + random.nextInt(9) - 5));
                break;
            case 1: ask("of", some(Math.max(1, model.texts.size())), some(3)); break;
            case 2: ask("why", some(6)); break;
            case 3: askRule(); break;
            case 4: case 5: ask("takes", hand(), some(3)); break;
            case 6: ask("pay", hand()); break;
            case 7: ask("earn", hand()); break;
            case 8: ask("lose", hand(), oneOf(3) ? some(100) : 1 + some(5)); break;
            case 9: ask("appeal", event()); break;
            case 10: ask("event", event(), some(4)); break;
            default: ask("end", hand(), oneOf(9) ? some(1000) : Math.max(0, model.day + random.nextInt(9) - 6));
        }
    }

    private void askRule() {
        if (oneOf(5)) {
            ask("rules", some(6), odd(), odd(), odd());
        } else {
            ask("rules", some(6), random.nextInt(200), random.nextInt(10), random.nextInt(4));
        }
    }

    private void actOnDays() {
        switch (random.nextInt(10)) {
            case 0: ask("run", oneOf(9) ? some(61) : 1 + some(12)); break;
            case 1: ask("seed", oneOf(2) ? some(65536) : some(100)); break;
            case 2: ask("search", oneOf(2) ? 1 + some(10) : 1 + some(3)); break;
            default: ask("run", 1);
        }
    }

    private void actOnCounts() {
        int place = oneOf(3) ? some(25) : some(6);
        switch (random.nextInt(6)) {
            case 0: ask("sheet", some(4), some(4) - 1, oneOf(3) ? some(26) - 1 : 5); break;
            case 1: ask("mark", some(4), place, oneOf(2) ? random.nextInt() : random.nextInt(3)); break;
            case 2: case 3: ask("grow", some(4), place, oneOf(2) ? random.nextInt() : random.nextInt(3)); break;
            case 4: ask("copy", some(4), some(4), some(4), some(4), oneOf(9) ? some(26) - 1 : random.nextInt(4)); break;
            default: ask("odd", place);
        }
    }

    private void actOnImages() {
        switch (random.nextInt(8)) {
            case 0: ask("keep"); break;
            case 1: ask("back"); break;
            case 2: ask("tell", random.nextInt(100)); break;
            case 3: case 4: tellDays(); break;
            default: ask("count", some(14));
        }
    }

    /** Tells what is due, now and then with one wrong, missing or too many. */
    private void tellDays() {
        if (oneOf(3)) {
            ask("check", some(31));
            return;
        }
        int n = oneOf(12) ? 1 + random.nextInt(30) : 1 + random.nextInt(5);
        List<Integer> due = model.daysTold(n);
        if (oneOf(4) && !due.isEmpty()) {
            int place = random.nextInt(due.size());
            due.set(place, due.get(place) + 1);
        }
        if (oneOf(6) && !due.isEmpty()) {
            due.remove(due.size() - 1);
        }
        if (oneOf(6)) {
            due.add(0);
        }
        for (int v : due) {
            ask("tell", v);
        }
        ask("check", n);
    }

    private void look() {
        switch (random.nextInt(4)) {
            case 0: for (int what = 0; what < 12; what++) ask("is", hand(), what); break;
            case 1: for (int what = 0; what < 11; what++) ask("has", shop(), what); break;
            case 2: for (int what = 0; what < 7; what++) ask("told", thing(), what); break;
            default: for (int what = 0; what < 14; what++) ask("count", what);
        }
    }

    private void lookAtAll() {
        for (int i = 0; i < model.shops.size(); i++) for (int w = 0; w < 11; w++) ask("has", i, w);
        for (int i = 0; i < model.hands.size(); i++) for (int w = 0; w < 12; w++) ask("is", i, w);
        for (int i = 0; i < model.things.size(); i++) for (int w = 0; w < 7; w++) ask("told", i, w);
        for (int i = 0; i < model.events.size(); i++) for (int w = 0; w < 4; w++) ask("event", i, w);
        for (int i = 0; i < model.hands.size(); i++) ask("end", i, model.day);
        for (int i = 0; i < 6; i++) ask("why", i);
    }
}
