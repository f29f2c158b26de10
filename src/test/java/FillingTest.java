import java.util.Random;

/** Promises 12 and 13 against a filling that is found by trying every way. */
public final class FillingTest {
    private static final int NONE = PrisonShops.NONE;

    public static void main(String[] args) {
        Random random = new Random(12);
        for (int i = 0; i < 1500; i++) {
            tryOne(random, i % 8 == 0 ? 9 : 7);
        }
        Due.end();
    }

    private static void tryOne(Random random, int mostHands) {
        PrisonShops x = new PrisonShops();
        int shops = random.nextInt(4);
        for (int i = 0; i < shops; i++) {
            x.shop(1 + random.nextInt(random.nextBoolean() ? 2 : 5), random.nextInt(4), random.nextInt(3));
        }
        int hands = random.nextInt(mostHands + 1);
        for (int i = 0; i < hands; i++) {
            x.hand(random.nextInt(4), random.nextInt(4), 3 + random.nextInt(30));
        }
        x.keep();
        compare(x, shops, hands);
        for (int round = 0; round < 2; round++) {
            if (round == 1 && random.nextBoolean()) {
                x.back();
            }
            change(random, x, shops, x.count(1));
            if (x.count(1) < mostHands && random.nextBoolean()) {
                x.hand(random.nextInt(4), random.nextInt(4), 3 + random.nextInt(30));
            }
            compare(x, shops, x.count(1));
        }
    }

    /** What THE FILLING asks for becomes another: nothing of the one ahead may stay. */
    private static void change(Random random, PrisonShops x, int shops, int hands) {
        int bars = random.nextInt(12);
        for (int i = 0; i < bars && hands > 1; i++) {
            x.bar(random.nextInt(hands), random.nextInt(hands), random.nextInt(4) == 0 ? 0 : 1);
        }
        for (int i = random.nextInt(4); i > 0 && hands > 0 && shops > 0; i--) {
            x.put(random.nextInt(hands), random.nextInt(shops));
            x.put(random.nextInt(hands), NONE);
            x.run(1 + random.nextInt(3));
        }
        if (hands > 0 && random.nextInt(3) == 0) {
            x.be(random.nextInt(hands), 9, x.count(10));
        }
        if (shops > 0 && random.nextInt(6) == 0) {
            x.lock(random.nextInt(shops), 2);
        }
    }

    private static void compare(PrisonShops x, int shops, int hands) {
        int[] best = bestWay(x, shops, hands);
        int count = 0;
        int turns = 0;
        int changed = 0;
        for (int i = 0; i < hands; i++) {
            int due = best[i] < shops ? best[i] : NONE;
            count += due == NONE ? 0 : 1;
            turns += due == NONE ? 0 : x.is(i, 6);
            changed += due == x.is(i, 8) ? 0 : 1;
            Due.is("filling(" + (2 + i) + ")", x.filling(2 + i), due);
        }
        Due.is("filling(0)", x.filling(0), count);
        Due.is("filling(1)", x.filling(1), turns);
        Due.is("filling behind the last HAND", x.filling(2 + hands), PrisonShops.BAD);
        Due.is("fill()", x.fill(), changed);
        for (int i = 0; i < hands; i++) {
            Due.is("is(" + i + ", 8) when filled", x.is(i, 8), best[i] < shops ? best[i] : NONE);
        }
        Due.is("fill() again", x.fill(), 0);
    }

    /** Every way in the order of its SHOPS, none (as number shops) behind all; the first of the best is kept. */
    private static int[] bestWay(PrisonShops x, int shops, int hands) {
        int ways = 1;
        for (int i = 0; i < hands; i++) {
            ways *= shops + 1;
        }
        boolean[][] may = new boolean[hands][shops];
        boolean[][] barred = barredPairs(x, hands);
        int[] turns = new int[hands];
        for (int i = 0; i < hands; i++) {
            turns[i] = x.is(i, 6);
            for (int s = 0; s < shops; s++) {
                may[i][s] = x.may(i, s) == 1;
            }
        }
        int[] places = new int[shops];
        for (int s = 0; s < shops; s++) {
            places[s] = x.has(s, 0);
        }
        long bestWorth = Long.MIN_VALUE;
        int[] best = new int[hands];
        int[] way = new int[hands];
        for (int w = 0; w < ways; w++) {
            int rest = w;
            for (int i = hands - 1; i >= 0; i--) {
                way[i] = rest % (shops + 1);
                rest /= shops + 1;
            }
            if (isAllowed(way, may, barred, places)) {
                long worth = 0;
                for (int i = 0; i < hands; i++) {
                    worth += way[i] < shops ? 1000000L - turns[i] : 0;
                }
                if (worth > bestWorth) {
                    bestWorth = worth;
                    best = way.clone();
                }
            }
        }
        return best;
    }

    private static boolean[][] barredPairs(PrisonShops x, int hands) {
        boolean[][] barred = new boolean[hands][hands];
        for (int i = 0; i < hands; i++) {
            for (int j = i + 1; j < hands; j++) {
                barred[i][j] = x.bar(i, j, 0) == 1;
                if (barred[i][j]) {
                    x.bar(j, i, 1);
                }
            }
        }
        return barred;
    }

    private static boolean isAllowed(int[] way, boolean[][] may, boolean[][] barred, int[] places) {
        int[] inside = new int[places.length];
        for (int i = 0; i < way.length; i++) {
            int shop = way[i];
            if (shop < places.length) {
                inside[shop]++;
                if (!may[i][shop] || inside[shop] > places[shop]) {
                    return false;
                }
                for (int j = i + 1; j < way.length; j++) {
                    if (way[j] == shop && barred[i][j]) {
                        return false;
                    }
                }
            }
        }
        return true;
    }
}
