/** Promises 15 to 23, one after the other: things, bells and orders. */
public final class ThingsPromisesTest {
    private static final int BAD = PrisonShops.BAD, NO = PrisonShops.NO, FULL = PrisonShops.FULL, NONE = PrisonShops.NONE;
    private static final int KIND = PrisonShops.KIND;

    public static void main(String[] args) {
        promise15Thing();
        promise15Edges();
        promise16Told();
        promise17As();
        promise18Out();
        promise18Refusals();
        promise19Hang();
        promise20Bell();
        promise20Lost();
        promise20Bits();
        promise21Who();
        promise22Late();
        promise23Foretold();
        promise23Learning();
        Due.end();
    }

    /** Shop 0 with hands 0 (RISK 1) and 1 (RISK 2). */
    private static PrisonShops begun() {
        PrisonShops x = new PrisonShops();
        x.shop(3, 3, 0);
        x.hand(1, 0, 900);
        x.hand(2, 0, 900);
        x.put(0, 0);
        x.put(1, 0);
        return x;
    }

    private static void promise15Thing() {
        PrisonShops x = begun();
        Due.is("15: kind below", x.thing(-1, 0, 0, 0), BAD);
        Due.is("15: kind above", x.thing(6, 0, 0, 0), BAD);
        Due.is("15: no shop", x.thing(0, 1, 0, 0), BAD);
        Due.is("15: shop none", x.thing(0, NONE, 0, 0), BAD);
        for (int i = 0; i < 30; i++) {
            Due.is("15: thing " + i, x.thing(1, 0, 0, 0), i);
        }
        Due.is("15: BAD ahead of FULL", x.thing(1, 0, 1, 0), BAD);
        Due.is("15: one more", x.thing(1, 0, 0, 0), FULL);
        Due.is("15: thirty", x.count(4), 30);
    }

    private static void promise15Edges() {
        int[] least = {0, 0, 0, 0, 0, 1};
        int[] most = {0, 0, 3, 3, 9999, 9999};
        for (int kind = 0; kind < 6; kind++) {
            PrisonShops x = begun();
            Due.is("15: least a of " + kind, x.thing(kind, 0, least[kind], 0), 0);
            Due.is("15: most a of " + kind, x.thing(kind, 0, most[kind], 0), 1);
            Due.is("15: a below of " + kind, x.thing(kind, 0, least[kind] - 1, 0), BAD);
            Due.is("15: a above of " + kind, x.thing(kind, 0, most[kind] + 1, 0), BAD);
            Due.is("15: date of " + kind, x.thing(kind, 0, most[kind], 1), kind == 5 ? 2 : BAD);
            Due.is("15: last date of " + kind, x.thing(kind, 0, most[kind], 999), kind == 5 ? 3 : BAD);
            Due.is("15: date above of " + kind, x.thing(kind, 0, most[kind], 1000), BAD);
            Due.is("15: date below of " + kind, x.thing(kind, 0, most[kind], -1), BAD);
        }
    }

    private static void told(PrisonShops x, int thing, int... due) {
        for (int what = 0; what < due.length; what++) {
            Due.is("16: told(" + thing + ", " + what + ")", x.told(thing, what), due[what]);
        }
    }

    private static void promise16Told() {
        PrisonShops x = begun();
        x.thing(3, 0, 2, 0);
        x.thing(4, 0, 77, 0);
        x.thing(5, 0, 10, 4);
        x.thing(0, 0, 0, 0);
        x.shop(1, 0, 0);
        x.thing(1, 1, 0, 0);
        x.out(0, 1);
        told(x, 0, 3, 0, 2, 0, 1, 1, NONE);
        told(x, 1, 4, 0, 77, 0, 0, NONE, NONE);
        told(x, 2, 5, 0, 10, 4, 0, NONE, NONE);
        told(x, 3, 0, 0, 0, 0, 0, NONE, NONE);
        told(x, 4, 1, 1, 0, 0, 0, NONE, NONE);
        x.bell(1, 0);
        x.bell(1, 0);
        told(x, 4, 1, 1, 0, 0, 2, NONE, NONE);
        x.run(1);
        told(x, 2, 5, 0, 10, 4, 0, NONE, 0);
        Due.is("16: below", x.told(0, -1), BAD);
        Due.is("16: above", x.told(0, 7), BAD);
        Due.is("16: no thing", x.told(5, 0), BAD);
        Due.is("16: thing below", x.told(-1, 0), BAD);
    }

    private static void promise17As() {
        int[] a = {0, 0, 2, 3, 44, 55};
        String[] under = {"0", "10", "210", "3210", "40", "540"};
        PrisonShops x = begun();
        for (int kind = 0; kind < 6; kind++) {
            x.thing(kind, 0, a[kind], 0);
            for (int as = 0; as < 6; as++) {
                int due = under[kind].indexOf((char) ('0' + as)) >= 0 ? a[kind] : KIND;
                Due.is("17: a thing of kind " + kind + " as " + as, x.as(kind, as), due);
            }
        }
        Due.is("17: no kind 6", x.as(0, 6), BAD);
        Due.is("17: no kind -1", x.as(0, -1), BAD);
        Due.is("17: no thing", x.as(6, 0), BAD);
        Due.is("17: thing below", x.as(-1, 0), BAD);
    }

    private static void promise18Out() {
        PrisonShops x = begun();
        x.thing(1, 0, 0, 0);
        x.thing(2, 0, 1, 0);
        x.thing(3, 0, 2, 0);
        x.thing(3, 0, 1, 0);
        Due.is("18: a tool needs no risk", x.out(0, 1), 1);
        Due.is("18: a blade above", x.out(1, 1), NO);
        Due.is("18: a needle", x.out(2, 1), 2);
        Due.is("18: a needle above", x.out(3, 1), NO);
        Due.is("18: a blade at its risk", x.out(1, 0), 1);
        Due.is("18: it is out", x.out(1, 0), NO);
        Due.is("18: to whom", x.told(1, 5), 0);
        Due.is("18: three out", x.count(12), 3);
    }

    private static void promise18Refusals() {
        PrisonShops x = begun();
        x.shop(2, 3, 0);
        x.hand(0, 0, 900);
        x.hand(0, 0, 900);
        x.put(2, 1);
        x.thing(1, 0, 0, 0);
        x.thing(0, 0, 0, 0);
        x.thing(5, 0, 9999, 0);
        x.thing(1, 0, 0, 0);
        Due.is("18: no thing", x.out(4, 0), BAD);
        Due.is("18: no hand", x.out(0, 4), BAD);
        Due.is("18: no hand ahead of no tool", x.out(1, 4), BAD);
        Due.is("18: a thing", x.out(1, 0), KIND);
        Due.is("18: an order", x.out(2, 0), KIND);
        Due.is("18: of another shop", x.out(0, 2), NO);
        Due.is("18: of no shop", x.out(0, 3), NO);
        x.lock(0, 1);
        Due.is("18: locked", x.out(0, 0), NO);
        x.lock(0, 0);
        x.bell(0, 1);
        Due.is("18: shut", x.out(0, 0), NO);
        x.bell(0, 1);
        Due.is("18: lost", x.out(3, 0), NO);
        x.bell(0, 1);
        Due.is("18: lost, doors open", x.out(3, 0), NO);
        Due.is("18: what hangs", x.out(0, 0), 1);
    }

    private static void promise19Hang() {
        PrisonShops x = begun();
        x.thing(1, 0, 0, 0);
        x.thing(4, 0, 0, 0);
        Due.is("19: it hangs", x.hang(0), NO);
        Due.is("19: no tool", x.hang(1), KIND);
        Due.is("19: no thing", x.hang(2), BAD);
        Due.is("19: thing below", x.hang(-1), BAD);
        x.out(0, 0);
        Due.is("19: it was out", x.hang(0), 1);
        Due.is("19: to nobody", x.told(0, 5), NONE);
        x.bell(0, 0);
        x.bell(0, 0);
        Due.is("19: it was lost", x.hang(0), 2);
        Due.is("19: and is found", x.told(0, 4), 0);
        Due.is("19: none lost", x.count(13), 0);
    }

    private static void promise20Bell() {
        PrisonShops x = begun();
        x.shop(1, 0, 0);
        x.thing(1, 0, 0, 0);
        x.thing(1, 1, 0, 0);
        x.thing(0, 0, 0, 0);
        x.thing(2, 0, 3, 0);
        x.thing(3, 0, 3, 0);
        Due.is("20: all hang and are seen", x.bell(0, 7), 0);
        Due.is("20: open", x.has(0, 7), 0);
        x.out(3, 0);
        Due.is("20: out, not seen", x.bell(0, 5), 0);
        Due.is("20: out and seen", x.bell(0, 7), 1);
        Due.is("20: shut", x.has(0, 7), 1);
        Due.is("20: the other shop is not", x.has(1, 7), 0);
        Due.is("20: out and seen, and one missed", x.bell(0, 6), 2);
        Due.is("20: both missed", x.bell(0, 0), 2);
        Due.is("20: missed twice is lost", x.told(0, 4), 2);
        Due.is("20: missed once is not", x.told(4, 4), 0);
        Due.is("20: lost ones agree, seen or not", x.bell(0, 5), 0);
        Due.is("20: open again", x.has(0, 7), 0);
        Due.is("20: lost all the same", x.told(0, 4), 2);
    }

    private static void promise20Lost() {
        PrisonShops x = begun();
        x.shop(1, 0, 0);
        x.thing(1, 0, 0, 0);
        x.thing(1, 1, 0, 0);
        x.bell(0, 0);
        x.bell(1, 0);
        x.bell(0, 1);
        Due.is("20: missed", x.bell(0, 0), 1);
        Due.is("20: not twice, one after the other", x.told(0, 4), 0);
        Due.is("20: bells of another shop are none of this", x.told(1, 4), 0);
        Due.is("20: the second one", x.bell(1, 0), 1);
        Due.is("20: lost", x.told(1, 4), 2);
        x.hang(1);
        Due.is("20: found, and missed again", x.bell(1, 0), 1);
        Due.is("20: as it was at the bell ahead", x.told(1, 4), 2);
        x.bell(1, 0);
        x.hang(1);
        x.bell(1, 0);
        Due.is("20: at the bell ahead it was lost, not missed", x.told(1, 4), 0);
    }

    private static void promise20Bits() {
        PrisonShops x = begun();
        Due.is("20: no tools", x.bell(0, 0), 0);
        Due.is("20: no tool 0", x.bell(0, 1), BAD);
        Due.is("20: no shop", x.bell(1, 0), BAD);
        for (int i = 0; i < 30; i++) {
            x.thing(1, 0, 0, 0);
        }
        Due.is("20: thirty seen", x.bell(0, (1 << 30) - 1), 0);
        Due.is("20: no tool 30", x.bell(0, 1 << 30), BAD);
        Due.is("20: below 0", x.bell(0, -1), BAD);
        Due.is("20: the least number", x.bell(0, Integer.MIN_VALUE), BAD);
        Due.is("20: still open", x.has(0, 7), 0);
        Due.is("20: one not seen", x.bell(0, (1 << 29) - 1), 1);
        Due.is("20: none seen", x.bell(0, 0), 30);
        Due.is("20: the last is lost", x.told(29, 4), 2);
        Due.is("20: only that", x.count(13), 1);
    }

    private static void promise21Who() {
        PrisonShops x = begun();
        x.shop(2, 3, 0);
        x.hand(0, 0, 900);
        x.put(2, 1);
        x.thing(1, 0, 0, 0);
        x.thing(1, 0, 0, 0);
        x.thing(1, 1, 0, 0);
        Due.is("21: nobody", x.who(0), 0);
        x.out(0, 1);
        Due.is("21: the first tool", x.who(0), 2);
        x.hang(0);
        x.out(1, 0);
        Due.is("21: the second tool", x.who(0), 1);
        x.out(0, 1);
        Due.is("21: both", x.who(0), 3);
        x.hang(1);
        x.out(1, 1);
        x.out(2, 2);
        Due.is("21: hand 1", x.who(0), 2);
        Due.is("21: hand 2", x.who(1), 4);
        x.hang(0);
        x.hang(1);
        x.out(1, 0);
        Due.is("21: hand 0", x.who(0), 1);
        Due.is("21: no shop", x.who(2), BAD);
        Due.is("21: shop below", x.who(-1), BAD);
    }

    private static void promise22Late() {
        PrisonShops x = begun();
        x.thing(5, 0, 15, 5);
        x.thing(5, 0, 10, 0);
        x.thing(4, 0, 1, 0);
        Due.is("22: ahead while open", x.late(0), -5);
        Due.is("22: no order", x.late(2), KIND);
        Due.is("22: no thing", x.late(3), BAD);
        Due.is("22: thing below", x.late(-1), BAD);
        x.run(2);
        Due.is("22: done on its day", x.late(1), 0);
        Due.is("22: open", x.late(0), -3);
        x.run(9);
        Due.is("22: done on day 2", x.late(0), -3);
        x.thing(5, 0, 9999, 4);
        Due.is("22: late while open", x.late(3), 7);
    }

    private static void promise23Foretold() {
        PrisonShops x = begun();
        Due.is("23: nothing open", x.foretold(0), 0);
        x.thing(5, 0, 10, 9);
        Due.is("23: today", x.foretold(0), 0);
        x.thing(5, 0, 1, 2);
        Due.is("23: the one with the earlier date is first", x.foretold(0), 1);
        x.be(0, 9, 0);
        x.lock(0, 50);
        Due.is("23: court days and locks are not looked at", x.foretold(0), 1);
        Due.is("23: no shop", x.foretold(1), BAD);
        Due.is("23: shop below", x.foretold(-1), BAD);
        x.put(0, NONE);
        x.put(1, NONE);
        Due.is("23: nobody works", x.foretold(0), NONE);
        Due.is("23: nothing is done", x.told(0, 6), NONE);
    }

    private static void promise23Learning() {
        PrisonShops x = new PrisonShops();
        x.shop(1, 3, 0);
        x.hand(0, 0, 2);
        x.put(0, 0);
        x.rate(0, 0);
        x.thing(5, 0, 10, 0);
        Due.is("23: ten days of nothing, then one a day", x.foretold(0), 19);
        x.thing(5, 0, 21, 0);
        Due.is("23: then two a day; terms are not looked at", x.foretold(0), 30);
        x.be(0, 1, 3);
        x.thing(5, 0, 2969, 0);
        Due.is("23: on the last of 1000 days", x.foretold(0), 999);
        x.thing(5, 0, 1, 0);
        Due.is("23: not within 1000 days", x.foretold(0), NONE);
        x.put(0, NONE);
        x.hand(0, 0, 900);
        x.put(1, 0);
        x.rate(0, 1);
        x.run(9);
        x.shop(1, 3, 0);
        x.put(1, NONE);
        x.put(1, 1);
        x.rate(1, 0);
        x.thing(5, 1, 11, 0);
        Due.is("23: what is learnt already counts: no skill, then ten days of one, then of two", x.foretold(1), 20);
        PrisonShops y = new PrisonShops();
        y.shop(1, 3, 0);
        y.hand(0, 3, 999);
        y.put(0, 0);
        y.run(60);
        y.thing(5, 0, 480, 0);
        Due.is("23: what is made already counts", y.foretold(0), 60);
        y.thing(5, 0, 9, 0);
        Due.is("23: from this day on", y.foretold(0), 61);
    }
}
