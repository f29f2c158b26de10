/** Promises 1 to 14, one after the other: shops, hands and the filling. */
public final class ShopsPromisesTest {
    private static final int BAD = PrisonShops.BAD, NO = PrisonShops.NO, FULL = PrisonShops.FULL, NONE = PrisonShops.NONE;

    public static void main(String[] args) {
        promise1NewObject();
        promise2Shop();
        promise3Rate();
        promise4Lock();
        promise5Has();
        promise6Hand();
        promise7Is();
        promise8Be();
        promise9Bar();
        promise10May();
        promise11Put();
        promise11PutHangsTools();
        promise12Filling();
        promise13Fill();
        promise14Never();
        Due.end();
    }

    private static void promise1NewObject() {
        PrisonShops x = new PrisonShops();
        for (int what = 0; what <= 13; what++) {
            Due.is("1: count(" + what + ") of a new object", x.count(what), 0);
        }
        Due.is("1: has", x.has(0, 0), BAD);
        Due.is("1: is", x.is(0, 0), BAD);
        Due.is("1: told", x.told(0, 0), BAD);
        Due.is("1: of", x.of(0, 0), BAD);
        Due.is("1: event", x.event(0, 0), BAD);
        Due.is("1: back", x.back(), NO);
    }

    private static void promise2Shop() {
        PrisonShops x = new PrisonShops();
        Due.is("2: no place", x.shop(0, 0, 0), BAD);
        Due.is("2: six places", x.shop(6, 0, 0), BAD);
        Due.is("2: risk below", x.shop(1, -1, 0), BAD);
        Due.is("2: risk above", x.shop(1, 4, 0), BAD);
        Due.is("2: level below", x.shop(1, 0, -1), BAD);
        Due.is("2: level above", x.shop(1, 0, 4), BAD);
        Due.is("2: none came", x.count(0), 0);
        Due.is("2: first", x.shop(1, 0, 0), 0);
        Due.is("2: second", x.shop(5, 3, 3), 1);
        Due.is("2: third", x.shop(3, 1, 2), 2);
        Due.is("2: BAD ahead of FULL", x.shop(6, 1, 2), BAD);
        Due.is("2: fourth", x.shop(3, 1, 2), FULL);
        Due.is("2: rate", x.has(1, 3), 5);
        Due.is("2: three", x.count(0), 3);
    }

    private static void promise3Rate() {
        PrisonShops x = new PrisonShops();
        Due.is("3: no shop", x.rate(0, 5), BAD);
        x.shop(1, 0, 0);
        Due.is("3: to 0", x.rate(0, 0), 5);
        Due.is("3: to 99", x.rate(0, 99), 0);
        Due.is("3: above", x.rate(0, 100), BAD);
        Due.is("3: below", x.rate(0, -1), BAD);
        Due.is("3: shop below", x.rate(-1, 7), BAD);
        Due.is("3: as it was", x.has(0, 3), 99);
    }

    private static void promise4Lock() {
        PrisonShops x = new PrisonShops();
        Due.is("4: no shop", x.lock(0, 1), BAD);
        x.shop(1, 3, 0);
        x.hand(0, 0, 900);
        x.put(0, 0);
        Due.is("4: for 2", x.lock(0, 2), 0);
        Due.is("4: below", x.lock(0, -1), BAD);
        Due.is("4: above", x.lock(0, 100), BAD);
        x.run(1);
        Due.is("4: a day less", x.has(0, 4), 1);
        Due.is("4: nothing made", x.has(0, 6), 0);
        x.run(2);
        Due.is("4: none left", x.has(0, 4), 0);
        Due.is("4: a day's work", x.has(0, 6), 5);
        Due.is("4: for 99", x.lock(0, 99), 0);
        Due.is("4: for 0", x.lock(0, 0), 99);
        Due.is("4: open", x.may(0, 0), 1);
    }

    private static void promise5Has() {
        PrisonShops x = new PrisonShops();
        x.shop(4, 2, 1);
        x.shop(2, 3, 0);
        x.hand(0, 1, 90);
        x.hand(0, 2, 90);
        x.hand(3, 0, 90);
        x.put(0, 0);
        x.put(1, 0);
        x.put(2, 1);
        x.thing(1, 0, 0, 0);
        x.thing(2, 0, 3, 0);
        x.thing(3, 0, 3, 0);
        x.thing(0, 0, 0, 0);
        x.thing(5, 0, 9000, 1);
        x.thing(1, 1, 0, 0);
        x.rate(0, 7);
        x.out(1, 0);
        x.run(1);
        x.bell(0, 4);
        x.lock(0, 3);
        x.bell(0, 4);
        int[] due = {4, 2, 1, 7, 3, 2, 17, 1, 3, 1, 1};
        for (int what = 0; what < due.length; what++) {
            Due.is("5: has(0, " + what + ")", x.has(0, what), due[what]);
        }
        int[] other = {2, 3, 0, 5, 0, 1, 5, 0, 1, 0, 0};
        for (int what = 0; what < other.length; what++) {
            Due.is("5: has(1, " + what + ")", x.has(1, what), other[what]);
        }
        Due.is("5: below", x.has(0, -1), BAD);
        Due.is("5: above", x.has(0, 11), BAD);
        Due.is("5: no shop", x.has(2, 0), BAD);
        Due.is("5: shop below", x.has(-1, 0), BAD);
    }

    private static void promise6Hand() {
        PrisonShops x = new PrisonShops();
        Due.is("6: risk below", x.hand(-1, 0, 9), BAD);
        Due.is("6: risk above", x.hand(4, 0, 9), BAD);
        Due.is("6: skill below", x.hand(0, -1, 9), BAD);
        Due.is("6: skill above", x.hand(0, 4, 9), BAD);
        Due.is("6: term 0", x.hand(0, 0, 0), BAD);
        Due.is("6: term 1000", x.hand(0, 0, 1000), BAD);
        for (int i = 0; i < 10; i++) {
            Due.is("6: hand " + i, x.hand(i % 4, 3 - i % 4, i == 0 ? 1 : i == 1 ? 999 : 50), i);
        }
        Due.is("6: BAD ahead of FULL", x.hand(0, 0, 0), BAD);
        Due.is("6: eleventh", x.hand(0, 0, 9), FULL);
        Due.is("6: ten", x.count(1), 10);
    }

    private static void promise7Is() {
        PrisonShops x = new PrisonShops();
        x.shop(1, 3, 0);
        x.hand(2, 1, 40);
        int[] fresh = {2, 1, 40, 0, 0, 0, 0, 0, NONE, NONE, 0, 0};
        for (int what = 0; what < fresh.length; what++) {
            Due.is("7: new is(0, " + what + ")", x.is(0, what), fresh[what]);
        }
        Due.text(x, 0, "save 4");
        Due.text(x, 0, "victim 3");
        x.be(0, 3, 50);
        x.be(0, 9, 30);
        x.put(0, 0);
        x.run(2);
        x.pay(0);
        x.run(9);
        int[] later = {2, 2, 40, 47, 5, 4, 11, 1, 0, 30, 55, 0};
        for (int what = 0; what < later.length; what++) {
            Due.is("7: is(0, " + what + ")", x.is(0, what), later[what]);
        }
        Due.is("7: below", x.is(0, -1), BAD);
        Due.is("7: above", x.is(0, 12), BAD);
        Due.is("7: no hand", x.is(1, 0), BAD);
        Due.is("7: hand below", x.is(-1, 0), BAD);
        x.run(30);
        Due.is("7: free", x.is(0, 11), 1);
        Due.is("7: in no shop", x.is(0, 8), NONE);
    }

    private static void promise8Be() {
        PrisonShops x = new PrisonShops();
        Due.is("8: no hand", x.be(0, 0, 1), BAD);
        x.hand(1, 2, 500);
        Due.is("8: risk", x.be(0, 0, 3), 1);
        Due.is("8: risk again", x.be(0, 0, 0), 3);
        Due.is("8: risk above", x.be(0, 0, 4), BAD);
        Due.is("8: risk below", x.be(0, 0, -1), BAD);
        Due.is("8: skill", x.be(0, 1, 0), 2);
        Due.is("8: skill above", x.be(0, 1, 4), BAD);
        Due.is("8: skill below", x.be(0, 1, -1), BAD);
        Due.is("8: owes", x.be(0, 3, 9999), 0);
        Due.is("8: owes above", x.be(0, 3, 10000), BAD);
        Due.is("8: owes below", x.be(0, 3, -1), BAD);
        Due.is("8: owes nothing", x.be(0, 3, 0), 9999);
        x.run(5);
        Due.is("8: court in the past", x.be(0, 9, 4), BAD);
        Due.is("8: court today", x.be(0, 9, 5), NONE);
        Due.is("8: court later", x.be(0, 9, 999), 5);
        Due.is("8: no such day", x.be(0, 9, 1000), BAD);
        Due.is("8: no court", x.be(0, 9, NONE), 999);
        Due.is("8: none of another", x.be(0, 3, NONE), BAD);
        int[] fixed = {-1, 2, 4, 5, 6, 7, 8, 10, 11, 12};
        for (int what : fixed) {
            Due.is("8: what " + what, x.be(0, what, 0), BAD);
        }
        Due.is("8: the term stands", x.is(0, 2), 500);
    }

    private static void promise9Bar() {
        PrisonShops x = new PrisonShops();
        x.hand(0, 0, 9);
        x.hand(0, 0, 9);
        x.hand(0, 0, 9);
        Due.is("9: on", x.bar(0, 1, 1), 0);
        Due.is("9: on, the other way", x.bar(1, 0, 1), 1);
        Due.is("9: no others", x.bar(1, 2, 0), 0);
        Due.is("9: off", x.bar(1, 0, 0), 1);
        Due.is("9: it is off", x.bar(0, 1, 0), 0);
        Due.is("9: one", x.bar(1, 1, 1), BAD);
        Due.is("9: on 2", x.bar(0, 1, 2), BAD);
        Due.is("9: on -1", x.bar(0, 1, -1), BAD);
        Due.is("9: no other", x.bar(0, 3, 1), BAD);
        Due.is("9: no one", x.bar(-1, 0, 1), BAD);
        Due.is("9: nothing changed", x.bar(0, 1, 0), 0);
    }

    private static void promise10May() {
        PrisonShops x = new PrisonShops();
        x.shop(1, 1, 1);
        x.hand(1, 1, 2);
        x.hand(2, 1, 9);
        x.hand(1, 0, 9);
        Due.is("10: may", x.may(0, 0), 1);
        Due.is("10: risk", x.may(1, 0), 0);
        Due.is("10: level", x.may(2, 0), 0);
        x.be(0, 9, 0);
        Due.is("10: court", x.may(0, 0), 0);
        x.run(1);
        Due.is("10: court is over", x.may(0, 0), 1);
        x.lock(0, 1);
        Due.is("10: locked", x.may(0, 0), 0);
        x.run(2);
        Due.is("10: free", x.may(0, 0), 0);
        Due.is("10: no hand", x.may(3, 0), BAD);
        Due.is("10: hand below", x.may(-1, 0), BAD);
        Due.is("10: no shop", x.may(0, 1), BAD);
        Due.is("10: none is no shop", x.may(0, NONE), BAD);
    }

    private static void promise11Put() {
        PrisonShops x = new PrisonShops();
        x.shop(2, 1, 0);
        x.shop(1, 3, 0);
        x.hand(0, 0, 90);
        x.hand(0, 0, 90);
        x.hand(0, 0, 90);
        x.hand(2, 0, 3);
        Due.is("11: comes", x.put(0, 0), NONE);
        Due.is("11: to the same", x.put(0, 0), 0);
        Due.is("11: second", x.put(1, 0), NONE);
        Due.is("11: no place", x.put(2, 0), NO);
        Due.is("11: its own place does not count", x.put(1, 0), 0);
        Due.is("11: risk", x.put(3, 0), NO);
        x.bar(0, 2, 1);
        Due.is("11: leaves", x.put(1, NONE), 0);
        Due.is("11: barred", x.put(2, 0), NO);
        x.bar(2, 0, 0);
        Due.is("11: no more", x.put(2, 0), NONE);
        Due.is("11: moves", x.put(2, 1), 0);
        x.lock(1, 1);
        Due.is("11: locked, even where it is", x.put(2, 1), NO);
        Due.is("11: out of a locked one", x.put(2, NONE), 1);
        Due.is("11: no hand", x.put(4, 0), BAD);
        Due.is("11: no shop", x.put(0, 2), BAD);
        Due.is("11: shop below", x.put(0, -1), BAD);
        Due.is("11: as it was", x.is(0, 8), 0);
        x.run(4);
        Due.is("11: free", x.put(3, 1), NO);
        Due.is("11: free to none", x.put(3, NONE), NONE);
    }

    private static void promise11PutHangsTools() {
        PrisonShops x = new PrisonShops();
        x.shop(2, 3, 0);
        x.shop(2, 3, 0);
        x.hand(0, 0, 90);
        x.hand(0, 0, 90);
        x.put(0, 0);
        x.put(1, 0);
        x.thing(1, 0, 0, 0);
        x.thing(1, 0, 0, 0);
        x.out(0, 0);
        x.out(1, 1);
        x.put(0, 0);
        Due.is("11: still out in the same shop", x.told(0, 4), 1);
        x.put(0, 1);
        Due.is("11: hangs again", x.told(0, 4), 0);
        Due.is("11: out to nobody", x.told(0, 5), NONE);
        Due.is("11: what another has stays", x.told(1, 5), 1);
        x.put(1, NONE);
        Due.is("11: hangs when it leaves", x.told(1, 4), 0);
    }

    private static void promise12Filling() {
        PrisonShops x = new PrisonShops();
        Due.is("12: nobody", x.filling(0), 0);
        Due.is("12: no turns", x.filling(1), 0);
        Due.is("12: no hand 0", x.filling(2), BAD);
        x.shop(1, 3, 0);
        x.shop(1, 3, 2);
        x.hand(0, 2, 90);
        x.hand(0, 0, 90);
        Due.is("12: the most", x.filling(0), 2);
        Due.is("12: the skilled one gives way", x.filling(2), 1);
        Due.is("12: to the unskilled one", x.filling(3), 0);
        x.put(1, 0);
        x.run(3);
        x.hand(0, 0, 90);
        Due.is("12: the fairest sum", x.filling(1), 0);
        Due.is("12: not who worked", x.filling(3), NONE);
        Due.is("12: but who did not", x.filling(4), 0);
        x.bar(0, 2, 1);
        Due.is("12: barred only in one shop", x.filling(4), 0);
        x.lock(1, 5);
        Due.is("12: one shop, the least number", x.filling(2), 0);
        Due.is("12: none behind all", x.filling(4), NONE);
        Due.is("12: one", x.filling(0), 1);
        Due.is("12: below", x.filling(-1), BAD);
        Due.is("12: behind the last", x.filling(5), BAD);
        Due.is("12: nothing moved", x.is(0, 8), NONE);
    }

    private static void promise13Fill() {
        PrisonShops x = new PrisonShops();
        Due.is("13: nobody", x.fill(), 0);
        x.shop(1, 3, 0);
        x.shop(2, 3, 0);
        x.hand(0, 0, 2);
        x.hand(0, 0, 90);
        x.hand(0, 0, 90);
        x.thing(1, 1, 0, 0);
        x.thing(1, 0, 0, 0);
        Due.is("13: three come", x.fill(), 3);
        Due.is("13: where the filling has them", x.is(2, 8), 1);
        Due.is("13: none changes", x.fill(), 0);
        x.out(0, 1);
        x.out(1, 0);
        x.fill();
        Due.is("13: who stays keeps what is out", x.told(0, 4), 1);
        x.be(0, 9, 0);
        Due.is("13: who goes to court, and who comes to its place", x.fill(), 2);
        Due.is("13: to none", x.is(0, 8), NONE);
        Due.is("13: it hangs again", x.told(1, 4), 0);
        Due.is("13: and what the other had", x.told(0, 4), 0);
        x.run(3);
        Due.is("13: free", x.is(0, 11), 1);
        Due.is("13: the free do not change", x.fill(), 0);
    }

    private static void promise14Never() {
        PrisonShops x = new PrisonShops();
        Due.is("14: nobody", x.never(), 0);
        x.shop(2, 3, 0);
        x.hand(0, 0, 90);
        x.hand(0, 0, 90);
        x.hand(0, 0, 1);
        x.hand(0, 0, 90);
        Due.is("14: all", x.never(), 15);
        x.put(0, 0);
        Due.is("14: not who is in a shop", x.never(), 14);
        x.run(1);
        x.put(0, NONE);
        Due.is("14: not who worked", x.never(), 14);
        x.run(1);
        Due.is("14: not who is free", x.never(), 10);
    }
}
