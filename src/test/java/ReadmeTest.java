import java.nio.file.Files;
import java.nio.file.Path;

/** README.md's example: each line stands there as it is asked here, and answers what is written behind it. */
public final class ReadmeTest {
    private static int lines = 0;
    private static String readme = "";

    public static void main(String[] args) throws Exception {
        readme = Files.readString(Path.of("README.md"));
        PrisonShops x = new PrisonShops();
        int shop = x.shop(3, 3, 0);
        line("int shop = x.shop(3, 3, 0);", shop, "0");
        int hand = x.hand(1, 0, 60);
        line("int hand = x.hand(1, 0, 60);", hand, "0");
        line("x.fill();", x.fill(), "1");
        line("x.feed(0x70617920, 0x6e2a342b, 0x6b202020);", x.feed(0x70617920, 0x6e2a342b, 0x6b202020), "12");
        line("x.trim(9);", x.trim(9), "9");
        line("x.text(0);", x.text(0), "0");
        int saw = x.thing(1, shop, 0, 0);
        line("int saw = x.thing(1, shop, 0, 0);", saw, "0");
        int order = x.thing(5, shop, 12, 2);
        line("int order = x.thing(5, shop, 12, 2);", order, "1");
        line("x.out(saw, hand);", x.out(saw, hand), "1");
        line("x.bell(shop, 0);", x.bell(shop, 0), "0");
        line("x.keep();", x.keep(), "0");
        line("x.run(7);", x.run(7), "7");
        line("x.late(order);", x.late(order), "0");
        line("x.pay(hand);", x.pay(hand), "140");
        line("x.out(saw, 9);", x.out(saw, 9), "BAD");
        line("x.back();", x.back(), "0");
        Due.is("lines with an answer behind them", readme.lines().filter(l -> l.matches(".*; *// (BAD|\\d+): .*")).count(), lines);
        Due.end();
    }

    private static void line(String call, int got, String written) {
        lines++;
        Due.is(call, got, written.equals("BAD") ? PrisonShops.BAD : Integer.parseInt(written));
        boolean stands = readme.lines().anyMatch(l -> l.startsWith(call) && l.substring(call.length()).strip().startsWith("// " + written + ":"));
        Due.isTrue("README.md has " + call + " // " + written, stands);
    }
}
