import java.util.Random;

/** Any arguments in any state: each call ends, and none throws but message as the document says. */
public final class WildTest {
    private static final int[] EDGES = {Integer.MIN_VALUE, Integer.MAX_VALUE, -1001, -1000, -10, -5, -4, -3, -2, -1, 0, 1, 2, 7, 8,
        12, 13, 19, 20, 39, 40, 59, 60, 61, 98, 99, 100, 899, 900, 901, 999, 1000};
    private static final String[] BITS = {"place ", "road ", "fits ", "at ", "make ", "unit ", "carton ", "pallet ", "pack ", "out ",
        "open ", "seal ", "move ", "scan ", "sell ", "back ", "end ", "free ", ";", "; ", "a ", "b ", "c ", "1 ", "2 ", "3 ", "39 ",
        "40 ", "999 ", "1000 ", "\n", "abcdefg ", "99999999999 ", "A", "\u00ff", "\u0000"};

    public static void main(String[] args) {
        for (int seed = 1; seed <= 300; seed++) {
            Random random = Due.random(seed);
            PackTracer x = new PackTracer();
            for (int round = 0; round < 12; round++) {
                Due.feed(x, Due.bytes(text(random)));
                int n = random.nextInt(4) == 0 ? edge(random) : x.count(6);
                if (random.nextBoolean()) {
                    x.text(n);
                } else {
                    x.tell(n);
                }
                for (int call = 0; call < 40; call++) {
                    ask(x, random);
                }
            }
        }
        fullBook();
        Due.is("all calls ended", 1, 1);
        Due.end();
    }

    private static int edge(Random random) {
        return random.nextInt(5) == 0 ? random.nextInt() : EDGES[random.nextInt(EDGES.length)];
    }

    private static String text(Random random) {
        StringBuilder b = new StringBuilder();
        if (random.nextBoolean()) {
            b.append("place a;place b;place c;road a b 3;");
            for (int k = random.nextInt(30); k > 0; k--) {
                b.append("at ").append(random.nextInt(20)).append(' ');
                String[] acts = {"make N unit a", "make N carton a", "make N pallet a", "pack N M", "out N", "open N", "seal N",
                    "move N b", "scan N b", "sell N", "back N a", "end N", "free N", "scan N a"};
                b.append(acts[random.nextInt(acts.length)].replace("N", "" + random.nextInt(6)).replace("M", "" + random.nextInt(6)));
                b.append(';');
            }
        }
        if (random.nextInt(3) == 0) {
            for (int k = random.nextInt(40); k > 0; k--) {
                b.append(BITS[random.nextInt(BITS.length)]);
            }
        }
        return b.toString();
    }

    private static void ask(PackTracer x, Random r) {
        int a = edge(r);
        int b = edge(r);
        int c = edge(r);
        int d = edge(r);
        switch (r.nextInt(34)) {
            case 0 -> x.fault(a);
            case 1 -> x.hours(a, b);
            case 2 -> Due.message(x, a, b);
            case 3 -> x.thing(a, b, c);
            case 4 -> x.inside(a, b, c);
            case 5 -> x.there(a, b, c);
            case 6 -> x.many(a, b);
            case 7 -> x.trail(a, b, c);
            case 8 -> x.known(a, b);
            case 9 -> x.changed(a);
            case 10 -> x.without(a, b);
            case 11 -> x.refused(a);
            case 12 -> x.blamed(a);
            case 13 -> x.twoBlamed(a);
            case 14 -> x.met(a, b, c);
            case 15 -> x.wereIn(a, b, c, d);
            case 16 -> x.most(a);
            case 17 -> x.still(a, b);
            case 18 -> x.components(a, b);
            case 19 -> x.dwelt(a, b);
            case 20 -> x.flow(a, b);
            case 21 -> x.cause(a);
            case 22 -> x.needs(a, b);
            case 23 -> x.ifAt(a, b, c);
            case 24 -> x.window(a, b);
            case 25 -> x.lost(a, b, c);
            case 26 -> x.ifSwapped(a, b, c);
            case 27 -> x.busy(a, b);
            case 28 -> x.travelled(a);
            case 29 -> x.clash(a, b, c);
            case 30 -> x.soonest(a, b, c);
            case 31 -> x.count(a);
            case 32 -> x.tell(Math.min(a, 0));
            default -> x.feed(a, b, c, d, a);
        }
    }

    /** Sixty messages and forty things: the dearest calls end. */
    private static void fullBook() {
        PackTracer x = Due.traced("place a;place b;road a b 1;");
        for (int n = 0; n < 30; n++) {
            Due.tell(x, "at " + n + " make " + n + (n < 20 ? " unit" : n < 28 ? " carton" : " pallet") + " a;");
        }
        for (int n = 0; n < 20; n++) {
            Due.tell(x, "at " + (40 + n) + " pack " + n + " " + (20 + n / 3) + ";");
        }
        for (int n = 20; n < 28; n++) {
            Due.tell(x, "at " + (50 + n) + " pack " + n + " " + (28 + n % 2) + ";");
        }
        Due.tell(x, "at 999 scan 0 b;at 999 scan 1 a;");
        Due.is("sixty", x.count(2), 60);
        Due.is("the last is refused", x.refused(-1), 1);
        Due.is("twoBlamed", x.twoBlamed(2), 0);
        Due.is("window", x.window(59, 2), 998);
        // Every question at its edges: no index goes beyond what is full.
        Random random = new Random(1);
        for (int call = 0; call < 20000; call++) {
            ask(x, random);
        }
    }
}
