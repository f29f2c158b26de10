/** The calls of the face by number, so that tests can draw them. */
final class Calls {
    static final String[] NAMES = {"shop", "rate", "lock", "has", "hand", "is", "be", "bar", "may", "put", "filling", "fill",
        "never", "thing", "told", "as", "out", "hang", "bell", "who", "late", "foretold", "feed", "trim", "text", "of", "why",
        "rules", "pay", "takes", "earn", "lose", "appeal", "event", "end", "run", "seed", "search", "sheet", "mark", "grow",
        "copy", "odd", "tell", "check", "keep", "back", "count"};

    private Calls() {
    }

    static int numberOf(String name) {
        for (int i = 0; i < NAMES.length; i++) {
            if (NAMES[i].equals(name)) {
                return i;
            }
        }
        throw new IllegalArgumentException(name);
    }

    static int make(PrisonShops x, int call, int[] v) {
        switch (NAMES[call]) {
            case "shop": return x.shop(v[0], v[1], v[2]);
            case "rate": return x.rate(v[0], v[1]);
            case "lock": return x.lock(v[0], v[1]);
            case "has": return x.has(v[0], v[1]);
            case "hand": return x.hand(v[0], v[1], v[2]);
            case "is": return x.is(v[0], v[1]);
            case "be": return x.be(v[0], v[1], v[2]);
            case "bar": return x.bar(v[0], v[1], v[2]);
            case "may": return x.may(v[0], v[1]);
            case "put": return x.put(v[0], v[1]);
            case "filling": return x.filling(v[0]);
            case "fill": return x.fill();
            case "never": return x.never();
            case "thing": return x.thing(v[0], v[1], v[2], v[3]);
            case "told": return x.told(v[0], v[1]);
            case "as": return x.as(v[0], v[1]);
            case "out": return x.out(v[0], v[1]);
            case "hang": return x.hang(v[0]);
            case "bell": return x.bell(v[0], v[1]);
            case "who": return x.who(v[0]);
            case "late": return x.late(v[0]);
            case "foretold": return x.foretold(v[0]);
            case "feed": return x.feed(v[0], v[1], v[2]);
            case "trim": return x.trim(v[0]);
            case "text": return x.text(v[0]);
            case "of": return x.of(v[0], v[1]);
            case "why": return x.why(v[0]);
            case "rules": return x.rules(v[0], v[1], v[2], v[3]);
            case "pay": return x.pay(v[0]);
            case "takes": return x.takes(v[0], v[1]);
            case "earn": return x.earn(v[0]);
            case "lose": return x.lose(v[0], v[1]);
            case "appeal": return x.appeal(v[0]);
            case "event": return x.event(v[0], v[1]);
            case "end": return x.end(v[0], v[1]);
            case "run": return x.run(v[0]);
            case "seed": return x.seed(v[0]);
            case "search": return x.search(v[0]);
            case "sheet": return x.sheet(v[0], v[1], v[2]);
            case "mark": return x.mark(v[0], v[1], v[2]);
            case "grow": return x.grow(v[0], v[1], v[2]);
            case "copy": return x.copy(v[0], v[1], v[2], v[3], v[4]);
            case "odd": return x.odd(v[0]);
            case "tell": return x.tell(v[0]);
            case "check": return x.check(v[0]);
            case "keep": return x.keep();
            case "back": return x.back();
            case "count": return x.count(v[0]);
            default: throw new IllegalArgumentException(NAMES[call]);
        }
    }
}
