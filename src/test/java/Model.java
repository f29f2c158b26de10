import java.util.ArrayList;
import java.util.Arrays;
import java.util.List;

/**
 * The document a second time, written for plainness alone: objects of their own, lists, and images that are the calls
 * which led to them, made once more. ModelTest asks it and the program the same.
 */
final class Model {
    private static final int BAD = PrisonShops.BAD, NO = PrisonShops.NO, FULL = PrisonShops.FULL, NONE = PrisonShops.NONE;
    private static final int NOTHING = PrisonShops.NOTHING, KIND = PrisonShops.KIND, INDEX = PrisonShops.INDEX, SIZE = PrisonShops.SIZE;

    static final class Shop {
        int places, risk, level, rate = 5, locked, made;
        boolean shut;
        List<Thing> unseen = new ArrayList<>();
    }

    static final class Hand {
        int number, risk, skill, term, owes, coin, saved, turns, learnt, earned, counted, court = NONE;
        Shop shop;
        boolean free;
        List<Hand> barred = new ArrayList<>();
    }

    static class Thing {
        int kind, a, date;
        Shop shop;
        Hand holder;
        boolean lost;
        int done = NONE;
    }

    static final class Event {
        Hand hand;
        int days, told, back = NONE;
    }

    static final class Text {
        int key, day;
        PlainText read;
    }

    // what an image keeps
    List<Shop> shops = new ArrayList<>();
    List<Hand> hands = new ArrayList<>();
    List<Thing> things = new ArrayList<>();
    List<Event> events = new ArrayList<>();
    List<Text> texts = new ArrayList<>();
    int day, seed;
    // the calls that led here, and those that led to the image
    List<int[]> calls = new ArrayList<>();
    List<String> tapes = new ArrayList<>();
    List<int[]> imageCalls;
    List<String> imageTapes;
    // the rest
    String tape = "";
    List<Integer> waiting = new ArrayList<>();
    long[][] sheets = new long[4][];
    int[] sorts = new int[4];

    /** A call by its number in Calls.NAMES: its answer. */
    int call(int call, int[] v) {
        String name = Calls.NAMES[call];
        boolean kept = !List.of("feed", "trim", "tell", "check", "keep", "back", "sheet", "mark", "grow", "copy", "odd").contains(name);
        if (kept) {
            int[] row = Arrays.copyOf(v, v.length + 1);
            row[v.length] = call;
            calls.add(row);
            tapes.add(tape);
        }
        switch (name) {
            case "shop": return shop(v[0], v[1], v[2]);
            case "rate": return rate(v[0], v[1]);
            case "lock": return lock(v[0], v[1]);
            case "has": return has(v[0], v[1]);
            case "hand": return hand(v[0], v[1], v[2]);
            case "is": return is(v[0], v[1]);
            case "be": return be(v[0], v[1], v[2]);
            case "bar": return bar(v[0], v[1], v[2]);
            case "may": return isHand(v[0]) && isShop(v[1]) ? (may(hands.get(v[0]), shops.get(v[1])) ? 1 : 0) : BAD;
            case "put": return put(v[0], v[1]);
            case "filling": return filling(v[0]);
            case "fill": return fill();
            case "never": return never();
            case "thing": return thing(v[0], v[1], v[2], v[3]);
            case "told": return told(v[0], v[1]);
            case "as": return as(v[0], v[1]);
            case "out": return out(v[0], v[1]);
            case "hang": return hang(v[0]);
            case "bell": return bell(v[0], v[1]);
            case "who": return who(v[0]);
            case "late": return late(v[0]);
            case "foretold": return foretold(v[0]);
            case "feed": return feed(v[0], v[1], v[2]);
            case "trim": return trim(v[0]);
            case "text": return text(v[0]);
            case "of": return of(v[0], v[1]);
            case "why": return v[0] < 0 || v[0] > 5 ? BAD : why(v[0]);
            case "rules": return v[0] < 0 || v[0] > 5 ? BAD : rule(v[0], v[1], v[2], v[3]);
            case "pay": return pay(v[0]);
            case "takes": return takes(v[0], v[1]);
            case "earn": return earn(v[0]);
            case "lose": return lose(v[0], v[1]);
            case "appeal": return appeal(v[0]);
            case "event": return event(v[0], v[1]);
            case "end": return isHand(v[0]) && v[1] >= 0 && v[1] <= 999 ? end(hands.get(v[0]), v[1]) : BAD;
            case "run": return run(v[0]);
            case "seed": return seed(v[0]);
            case "search": return search(v[0]);
            case "sheet": return sheet(v[0], v[1], v[2]);
            case "mark": return mark(v[0], v[1], v[2]);
            case "grow": return grow(v[0], v[1], v[2]);
            case "copy": return copy(v[0], v[1], v[2], v[3], v[4]);
            case "odd": return odd(v[0]);
            case "tell": return tell(v[0]);
            case "check": return check(v[0]);
            case "keep": return keep();
            case "back": return back();
            case "count": return count(v[0]);
            default: throw new IllegalArgumentException(name);
        }
    }

    private boolean isShop(int i) { return i >= 0 && i < shops.size(); }
    private boolean isHand(int i) { return i >= 0 && i < hands.size(); }
    private boolean isThing(int i) { return i >= 0 && i < things.size(); }
    private static boolean isTool(Thing t) { return t.kind == 1 || t.kind == 2 || t.kind == 3; }

    private int shop(int places, int risk, int level) {
        if (places < 1 || places > 5 || risk < 0 || risk > 3 || level < 0 || level > 3) return BAD;
        if (shops.size() == 3) return FULL;
        Shop s = new Shop();
        s.places = places; s.risk = risk; s.level = level;
        shops.add(s);
        return shops.size() - 1;
    }

    private int rate(int shop, int v) {
        if (!isShop(shop) || v < 0 || v > 99) return BAD;
        int was = shops.get(shop).rate;
        shops.get(shop).rate = v;
        return was;
    }

    private int lock(int shop, int n) {
        if (!isShop(shop) || n < 0 || n > 99) return BAD;
        int was = shops.get(shop).locked;
        shops.get(shop).locked = n;
        return was;
    }

    private int has(int shop, int what) {
        if (!isShop(shop)) return BAD;
        Shop s = shops.get(shop);
        List<Thing> tools = toolsOf(s);
        switch (what) {
            case 0: return s.places;
            case 1: return s.risk;
            case 2: return s.level;
            case 3: return s.rate;
            case 4: return s.locked;
            case 5: return (int) hands.stream().filter(h -> h.shop == s).count();
            case 6: return s.made;
            case 7: return s.shut ? 1 : 0;
            case 8: return tools.size();
            case 9: return (int) tools.stream().filter(t -> t.holder != null).count();
            case 10: return (int) tools.stream().filter(t -> t.lost).count();
            default: return BAD;
        }
    }

    private List<Thing> toolsOf(Shop s) {
        List<Thing> tools = new ArrayList<>();
        for (Thing t : things) if (t.shop == s && isTool(t)) tools.add(t);
        return tools;
    }

    private int hand(int risk, int skill, int term) {
        if (risk < 0 || risk > 3 || skill < 0 || skill > 3 || term < 1 || term > 999) return BAD;
        if (hands.size() == 10) return FULL;
        Hand h = new Hand();
        h.number = hands.size(); h.risk = risk; h.skill = skill; h.term = term;
        hands.add(h);
        return h.number;
    }

    private int is(int hand, int what) {
        if (!isHand(hand)) return BAD;
        Hand h = hands.get(hand);
        switch (what) {
            case 0: return h.risk;
            case 1: return h.skill;
            case 2: return h.term;
            case 3: return h.owes;
            case 4: return h.coin;
            case 5: return h.saved;
            case 6: return h.turns;
            case 7: return h.learnt;
            case 8: return h.shop == null ? NONE : shops.indexOf(h.shop);
            case 9: return h.court;
            case 10: return h.earned;
            case 11: return h.free ? 1 : 0;
            default: return BAD;
        }
    }

    private int be(int hand, int what, int v) {
        if (!isHand(hand)) return BAD;
        Hand h = hands.get(hand);
        int was = is(hand, what);
        if (what == 0 && v >= 0 && v <= 3) h.risk = v;
        else if (what == 1 && v >= 0 && v <= 3) h.skill = v;
        else if (what == 3 && v >= 0 && v <= 9999) h.owes = v;
        else if (what == 9 && (v == NONE || v >= day && v <= 999)) h.court = v;
        else return BAD;
        return was;
    }

    private int bar(int one, int other, int on) {
        if (!isHand(one) || !isHand(other) || one == other || on != 0 && on != 1) return BAD;
        Hand a = hands.get(one);
        Hand b = hands.get(other);
        int was = a.barred.contains(b) ? 1 : 0;
        a.barred.remove(b);
        b.barred.remove(a);
        if (on == 1) {
            a.barred.add(b);
            b.barred.add(a);
        }
        return was;
    }

    private boolean may(Hand h, Shop s) {
        if (h.free) return false;
        if (h.risk > s.risk) return false;
        if (h.skill < s.level) return false;
        if (h.court == day) return false;
        return s.locked == 0;
    }

    private int put(int hand, int shop) {
        if (!isHand(hand)) return BAD;
        if (shop != NONE && !isShop(shop)) return BAD;
        Hand h = hands.get(hand);
        Shop to = shop == NONE ? null : shops.get(shop);
        if (to != null) {
            int others = 0;
            boolean barred = false;
            for (Hand o : hands) {
                if (o != h && o.shop == to) {
                    others++;
                    barred |= h.barred.contains(o);
                }
            }
            if (!may(h, to) || others >= to.places || barred) return NO;
        }
        int was = is(hand, 8);
        come(h, to);
        return was;
    }

    private void come(Hand h, Shop to) {
        if (h.shop == to) return;
        for (Thing t : things) if (t.holder == h) t.holder = null;
        h.shop = to;
    }

    // THE FILLING by trying all ways, the shops one after the other and none behind all
    private Shop[] way, best;
    private int bestCount, bestTurns;

    private void fillBest() {
        way = new Shop[hands.size()];
        best = null;
        fillFrom(0);
    }

    private void fillFrom(int i) {
        if (i == hands.size()) {
            int count = 0;
            int turns = 0;
            for (int k = 0; k < way.length; k++) {
                if (way[k] != null) {
                    count++;
                    turns += hands.get(k).turns;
                }
            }
            if (best == null || count > bestCount || count == bestCount && turns < bestTurns) {
                best = way.clone();
                bestCount = count;
                bestTurns = turns;
            }
            return;
        }
        Hand h = hands.get(i);
        for (Shop s : shops) {
            int inside = 0;
            boolean barred = false;
            for (int k = 0; k < i; k++) {
                if (way[k] == s) {
                    inside++;
                    barred |= h.barred.contains(hands.get(k));
                }
            }
            if (may(h, s) && inside < s.places && !barred) {
                way[i] = s;
                fillFrom(i + 1);
            }
        }
        way[i] = null;
        fillFrom(i + 1);
    }

    private int filling(int what) {
        if (what < 0 || what >= 2 + hands.size()) return BAD;
        fillBest();
        if (what == 0) return bestCount;
        if (what == 1) return bestTurns;
        return best[what - 2] == null ? NONE : shops.indexOf(best[what - 2]);
    }

    private int fill() {
        fillBest();
        int changed = 0;
        for (Hand h : hands) {
            if (!h.free && h.shop != best[h.number]) {
                come(h, best[h.number]);
                changed++;
            }
        }
        return changed;
    }

    private int never() {
        int bits = 0;
        for (Hand h : hands) if (!h.free && h.turns == 0 && h.shop == null) bits |= 1 << h.number;
        return bits;
    }

    private int thing(int kind, int shop, int a, int date) {
        if (!isShop(shop)) return BAD;
        boolean fits;
        switch (kind) {
            case 0: case 1: fits = a == 0 && date == 0; break;
            case 2: case 3: fits = a >= 0 && a <= 3 && date == 0; break;
            case 4: fits = a >= 0 && a <= 9999 && date == 0; break;
            case 5: fits = a >= 1 && a <= 9999 && date >= 0 && date <= 999; break;
            default: fits = false;
        }
        if (!fits) return BAD;
        if (things.size() == 30) return FULL;
        Thing t = new Thing();
        t.kind = kind; t.shop = shops.get(shop); t.a = a; t.date = date;
        things.add(t);
        return things.size() - 1;
    }

    private int told(int thing, int what) {
        if (!isThing(thing)) return BAD;
        Thing t = things.get(thing);
        switch (what) {
            case 0: return t.kind;
            case 1: return shops.indexOf(t.shop);
            case 2: return t.a;
            case 3: return t.date;
            case 4: return t.lost ? 2 : t.holder != null ? 1 : 0;
            case 5: return t.holder == null ? NONE : t.holder.number;
            case 6: return t.done;
            default: return BAD;
        }
    }

    private int as(int thing, int kind) {
        if (!isThing(thing) || kind < 0 || kind > 5) return BAD;
        int is = things.get(thing).kind;
        List<Integer> under;
        switch (is) {
            case 1: under = List.of(1, 0); break;
            case 2: under = List.of(2, 1, 0); break;
            case 3: under = List.of(3, 2, 1, 0); break;
            case 4: under = List.of(4, 0); break;
            case 5: under = List.of(5, 4, 0); break;
            default: under = List.of(0);
        }
        return under.contains(kind) ? things.get(thing).a : KIND;
    }

    private int out(int thing, int hand) {
        if (!isThing(thing) || !isHand(hand)) return BAD;
        Thing t = things.get(thing);
        Hand h = hands.get(hand);
        if (!isTool(t)) return KIND;
        if (t.lost || t.holder != null || h.shop != t.shop || t.shop.shut || t.shop.locked > 0) return NO;
        if (t.kind != 1 && h.risk > t.a) return NO;
        t.holder = h;
        int n = 0;
        for (Thing o : things) if (o.holder == h) n++;
        return n;
    }

    private int hang(int thing) {
        if (!isThing(thing)) return BAD;
        Thing t = things.get(thing);
        if (!isTool(t)) return KIND;
        int was = told(thing, 4);
        if (was == 0) return NO;
        t.lost = false;
        t.holder = null;
        return was;
    }

    private int bell(int shop, int seen) {
        if (!isShop(shop)) return BAD;
        Shop s = shops.get(shop);
        List<Thing> tools = toolsOf(s);
        if (seen < 0 || seen >= 1L << tools.size()) return BAD;
        List<Thing> unseen = new ArrayList<>();
        int wrong = 0;
        for (int i = 0; i < tools.size(); i++) {
            Thing t = tools.get(i);
            boolean isSeen = (seen & 1 << i) != 0;
            boolean hangs = !t.lost && t.holder == null;
            if (hangs && !isSeen) {
                wrong++;
                unseen.add(t);
                if (s.unseen.contains(t)) t.lost = true;
            }
            if (t.holder != null && isSeen) wrong++;
        }
        s.unseen = unseen;
        s.shut = wrong > 0;
        return wrong;
    }

    private int who(int shop) {
        if (!isShop(shop)) return BAD;
        int bits = 0;
        for (Thing t : toolsOf(shops.get(shop))) if (t.holder != null) bits |= 1 << t.holder.number;
        return bits;
    }

    private int late(int thing) {
        if (!isThing(thing)) return BAD;
        Thing t = things.get(thing);
        if (t.kind != 5) return KIND;
        return t.done == NONE ? day - t.date : t.done - t.date;
    }

    /** The OPEN ORDERS of a SHOP, as they come. */
    private List<Thing> openOrders(Shop s) {
        List<Thing> open = new ArrayList<>();
        for (Thing t : things) if (t.kind == 5 && t.shop == s && t.done == NONE) open.add(t);
        open.sort((one, other) -> Integer.compare(one.date, other.date));
        return open;
    }

    private int foretold(int shop) {
        if (!isShop(shop)) return BAD;
        Shop s = shops.get(shop);
        List<Thing> open = openOrders(s);
        List<int[]> workers = new ArrayList<>();
        for (Hand h : hands) if (h.shop == s) workers.add(new int[] {h.skill, h.learnt});
        int made = s.made;
        for (int d = day; d < day + 1000; d++) {
            for (int[] w : workers) {
                made += s.rate + w[0];
                w[1]++;
                if (w[1] == 10) {
                    w[1] = 0;
                    if (w[0] < 3) w[0]++;
                }
            }
            while (!open.isEmpty() && open.get(0).a <= made) made -= open.remove(0).a;
            if (open.isEmpty()) return d;
        }
        return NONE;
    }

    private int feed(int a, int b, int c) {
        if (tape.length() + 12 > 96) return FULL;
        for (int v : new int[] {a, b, c}) {
            for (int shift = 24; shift >= 0; shift -= 8) tape += (char) (v >>> shift & 255);
        }
        return tape.length();
    }

    private int trim(int n) {
        if (n < 0 || n > tape.length()) return BAD;
        tape = tape.substring(0, n);
        return n;
    }

    private int text(int from) {
        String bytes = tape;
        tape = "";
        if (from < 0 || from > 999) return BAD;
        PlainText read = new PlainText(bytes);
        if (read.fault >= 0) return -100 - read.fault;
        if (texts.size() == 12) return FULL;
        Text t = new Text();
        t.key = read.key; t.day = from; t.read = read;
        texts.add(t);
        return texts.size() - 1;
    }

    private int of(int text, int what) {
        if (text < 0 || text >= texts.size()) return BAD;
        Text t = texts.get(text);
        switch (what) {
            case 0: return t.key;
            case 1: return t.day;
            case 2: return t.read.parts;
            default: return BAD;
        }
    }

    private int why(int key) {
        int counts = NONE;
        for (int d = 0; d <= day; d++) {
            for (int i = 0; i < texts.size(); i++) if (texts.get(i).key == key && texts.get(i).day == d) counts = i;
        }
        return counts;
    }

    private int rule(int key, int a, int b, int c) {
        int text = why(key);
        if (text == NONE) return key == 0 ? a : 0;
        int v = texts.get(text).read.value(a, b, c);
        return v < 0 ? 0 : v > 9999 ? 9999 : v;
    }

    private static int held(int pence) { return Math.min(99999, pence); }

    private int[] parts(Hand h) {
        int g = h.earned;
        int above = g - rule(4, g, 0, 0);
        if (above < 0) above = 0;
        int victims = Math.min(rule(2, g, h.owes, 0), h.owes);
        if (victims > above) victims = above;
        int saved = rule(3, g, h.term - day, 0);
        if (saved > above - victims) saved = above - victims;
        return new int[] {victims, saved, g - victims - saved};
    }

    private int pay(int hand) {
        if (!isHand(hand)) return BAD;
        Hand h = hands.get(hand);
        if (h.free) return NO;
        int[] parts = parts(h);
        h.owes -= parts[0];
        h.saved = held(h.saved + parts[1]);
        h.coin = held(h.coin + parts[2]);
        h.earned = 0;
        return parts[2];
    }

    private int takes(int hand, int what) {
        if (!isHand(hand) || what < 0 || what > 2) return BAD;
        return hands.get(hand).free ? NO : parts(hands.get(hand))[what];
    }

    private int earn(int hand) {
        if (!isHand(hand)) return BAD;
        Hand h = hands.get(hand);
        if (h.free) return NO;
        if (events.size() == 40) return FULL;
        int n = Math.min(99, rule(5, h.turns - h.counted, h.skill, 0));
        h.counted = h.turns;
        if (n > 0) tellEvent(h, n);
        return n;
    }

    private int tellEvent(Hand h, int days) {
        Event e = new Event();
        e.hand = h; e.days = days; e.told = day;
        events.add(e);
        return events.size() - 1;
    }

    private int lose(int hand, int n) {
        if (!isHand(hand) || n < 1 || n > 99) return BAD;
        if (hands.get(hand).free) return NO;
        if (events.size() == 40) return FULL;
        return tellEvent(hands.get(hand), -n);
    }

    private int appeal(int event) {
        if (event < 0 || event >= events.size()) return BAD;
        Event e = events.get(event);
        if (e.days > 0) return KIND;
        if (e.back != NONE || e.hand.free) return NO;
        e.back = day;
        return 1;
    }

    private int event(int event, int what) {
        if (event < 0 || event >= events.size()) return BAD;
        Event e = events.get(event);
        switch (what) {
            case 0: return e.hand.number;
            case 1: return e.days;
            case 2: return e.told;
            case 3: return e.back;
            default: return BAD;
        }
    }

    private int end(Hand h, int known) {
        int end = h.term;
        for (Event e : events) {
            boolean isBack = e.back != NONE && known >= e.back;
            if (e.hand == h && known >= e.told && !isBack) end -= e.days;
        }
        return end;
    }

    private int run(int n) {
        if (n < 1 || n > 60) return BAD;
        if (day + n > 999) return FULL;
        for (int i = 0; i < n; i++) aDay();
        return day;
    }

    private void aDay() {
        for (Hand h : hands) {
            if (h.shop == null || h.free || h.court == day) continue;
            if (h.shop.locked > 0) {
                h.earned = held(h.earned + rule(1, h.skill, 0, 0));
                continue;
            }
            int pieces = h.shop.rate + h.skill;
            h.earned = held(h.earned + rule(0, pieces, h.skill, h.risk));
            h.turns++;
            h.learnt++;
            if (h.learnt == 10) {
                h.learnt = 0;
                h.skill = h.skill == 3 ? 3 : h.skill + 1;
            }
            h.shop.made += pieces;
        }
        for (Shop s : shops) {
            for (Thing order : openOrders(s)) {
                if (s.made < order.a) break;
                s.made -= order.a;
                order.done = day;
            }
        }
        for (Shop s : shops) if (s.locked > 0) s.locked--;
        for (Hand h : hands) {
            if (!h.free && end(h, day) <= day) {
                h.free = true;
                h.coin = held(h.coin + h.earned + h.saved);
                h.earned = 0;
                h.saved = 0;
                h.shop = null;
                for (Thing t : things) {
                    if (t.holder == h) {
                        t.holder = null;
                        t.lost = true;
                    }
                }
            }
        }
        day++;
    }

    private int seed(int v) {
        if (v < 0 || v > 65535) return BAD;
        int was = seed;
        seed = v;
        return was;
    }

    private int search(int m) {
        if (m < 1 || m > 10) return BAD;
        List<Hand> left = new ArrayList<>();
        for (Hand h : hands) if (!h.free) left.add(h);
        int bits = 0;
        for (int i = 0; i < m && !left.isEmpty(); i++) {
            seed = (int) ((25173L * seed + 13849) % 65536);
            bits |= 1 << left.remove(seed % left.size()).number;
        }
        return bits;
    }

    private int sheet(int sheet, int sort, int n) {
        if (sheet < 0 || sheet > 3 || sort < -1 || sort > 2) return BAD;
        if (sort == -1) {
            sheets[sheet] = null;
            return 0;
        }
        if (n > 24) return BAD;
        if (n < 0) return SIZE;
        sheets[sheet] = new long[n];
        sorts[sheet] = sort;
        return n;
    }

    private int write(int sheet, int place, long v) {
        long narrow = sorts[sheet] == 0 ? (byte) v : sorts[sheet] == 1 ? (short) v : v;
        sheets[sheet][place] = narrow;
        return (int) narrow;
    }

    private int refusal(int sheet, int place) {
        if (sheet < 0 || sheet > 3) return BAD;
        if (sheets[sheet] == null) return NOTHING;
        return place < 0 || place >= sheets[sheet].length ? INDEX : 0;
    }

    private int mark(int sheet, int place, int v) {
        return refusal(sheet, place) != 0 ? refusal(sheet, place) : write(sheet, place, v);
    }

    private int grow(int sheet, int place, int v) {
        return refusal(sheet, place) != 0 ? refusal(sheet, place) : write(sheet, place, sheets[sheet][place] * 1000 + v);
    }

    private int copy(int from, int place, int to, int at, int many) {
        if (from < 0 || from > 3 || to < 0 || to > 3) return BAD;
        if (sheets[from] == null || sheets[to] == null) return NOTHING;
        if (sorts[from] != sorts[to]) return KIND;
        try {
            System.arraycopy(sheets[from], place, sheets[to], at, many);
        } catch (IndexOutOfBoundsException e) {
            return INDEX;
        }
        return many;
    }

    private int odd(int place) {
        if (place < 0) return BAD;
        List<Long> there = new ArrayList<>();
        for (long[] s : sheets) if (s != null && s.length > place) there.add(s[place]);
        if (there.isEmpty()) return NONE;
        return (int) there.stream().filter(v -> !v.equals(there.get(0))).count();
    }

    private int tell(int v) {
        if (waiting.size() == 60) return FULL;
        waiting.add(v);
        return waiting.size();
    }

    private int check(int n) {
        List<Integer> told = waiting;
        waiting = new ArrayList<>();
        if (n < 1 || n > 30) return BAD;
        if (imageCalls == null) return NO;
        List<Integer> due = daysTold(n);
        if (told.equals(due)) return 0;
        int right = 0;
        while (right < told.size() && right < due.size() && told.get(right).equals(due.get(right))) right++;
        return 1 + right;
    }

    /** THE DAYS TOLD (none without an image). */
    List<Integer> daysTold(int n) {
        List<Integer> due = new ArrayList<>();
        if (imageCalls == null) return due;
        Model m = again();
        for (int i = 0; i < n; i++) {
            m.aDay();
            due.add(m.hands.stream().mapToInt(h -> h.earned).sum());
            due.add(m.shops.stream().mapToInt(s -> s.made).sum());
        }
        return due;
    }

    private Model again() {
        Model m = new Model();
        for (int i = 0; i < imageCalls.size(); i++) {
            int[] row = imageCalls.get(i);
            m.tape = imageTapes.get(i);
            m.call(row[row.length - 1], Arrays.copyOf(row, row.length - 1));
        }
        return m;
    }

    private int keep() {
        imageCalls = new ArrayList<>(calls);
        imageTapes = new ArrayList<>(tapes);
        return day;
    }

    private int back() {
        if (imageCalls == null) return NO;
        Model m = again();
        shops = m.shops;
        hands = m.hands;
        things = m.things;
        events = m.events;
        texts = m.texts;
        day = m.day;
        seed = m.seed;
        calls = m.calls;
        tapes = m.tapes;
        return day;
    }

    private int count(int what) {
        switch (what) {
            case 0: return shops.size();
            case 1: return hands.size();
            case 2: return (int) hands.stream().filter(h -> h.free).count();
            case 3: return (int) hands.stream().filter(h -> h.shop != null).count();
            case 4: return things.size();
            case 5: return (int) things.stream().filter(t -> t.kind == 5 && t.done == NONE).count();
            case 6: return texts.size();
            case 7: return events.size();
            case 8: return waiting.size();
            case 9: return tape.length();
            case 10: return day;
            case 11: return seed;
            case 12: return (int) things.stream().filter(t -> t.holder != null).count();
            case 13: return (int) things.stream().filter(t -> t.lost).count();
            default: return BAD;
        }
    }
}
