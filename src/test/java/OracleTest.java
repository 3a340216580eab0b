import java.util.ArrayList;
import java.util.Collections;
import java.util.List;
import java.util.Random;
import java.util.stream.IntStream;

/** Random texts: each answer of PackTracer held against the document said once more (Oracle). */
public final class OracleTest {
    private final Random random;
    private final Oracle oracle = new Oracle();
    private final PackTracer x = new PackTracer();
    private int hourSpan;
    private int things;
    private boolean orderly;
    private int[] numbers;

    private OracleTest(long seed) {
        random = Due.random(seed);
    }

    public static void main(String[] args) {
        long from = args.length > 0 ? Long.parseLong(args[0]) : 1;
        long to = args.length > 1 ? Long.parseLong(args[1]) : 400;
        int[] whys = new int[13];
        for (long seed = from; seed <= to; seed++) {
            OracleTest t = new OracleTest(seed);
            t.run(seed);
            t.oracle.story().forEach(s -> whys[s.why]++);
        }
        for (int why = 0; why <= 12; why++) {
            if (whys[why] == 0) {
                Due.is("random messages with verdict " + why, 0, 1);
            }
        }
        Due.end();
    }

    private int below(int n) {
        return random.nextInt(n);
    }

    private void run(long seed) {
        setting();
        hourSpan = below(3) == 0 ? 6 : below(8) == 0 ? 940 : 5 + below(60);
        things = 3 + below(8);
        orderly = below(5) > 0;
        List<Integer> shuffled = new ArrayList<>(IntStream.range(0, below(2) == 0 ? things : 40).boxed().toList());
        Collections.shuffle(shuffled, random);
        // Number 0 is often a carton or a pallet: it is no less a thing than others.
        int around = 3 + below(2);
        if (around < things && below(3) > 0) {
            Collections.swap(shuffled, shuffled.indexOf(0), around);
        }
        numbers = shuffled.stream().mapToInt(n -> n).toArray();
        StringBuilder text = new StringBuilder(header());
        int more = below(26);
        for (int i = 0; i < more && text.length() < 860; i++) {
            text.append(newMessage().line(oracle.places));
        }
        Due.is(seed + " text", Due.text(x, text.toString()), text.chars().filter(c -> c == ';').count());
        ask(seed + " text", 60);
        boolean toTheFull = below(8) == 0;
        for (int part = toTheFull ? 5 : below(3); part > 0; part--) {
            text = new StringBuilder();
            more = toTheFull ? 18 : below(18);
            if (below(4) == 0) {
                Due.is(seed + " text with a fault", Due.text(x, "place z;at 0 end 1;?"), -1);
            }
            int lines = 0;
            for (int i = 0; i < more && oracle.messages.size() < 60 && text.length() < 860; i++) {
                text.append(newMessage().line(oracle.places));
                lines++;
            }
            Due.is(seed + " tell", Due.tell(x, text.toString()), lines);
            ask(seed + " tell", 60);
        }
    }

    private final StringBuilder roadLines = new StringBuilder();

    private void setting() {
        int n = below(6) == 0 ? 8 : 1 + below(4);
        int longest = below(5) == 0 ? 99 : 9;
        for (int p = 0; p < n; p++) {
            oracle.places.add("" + (char) ('a' + p));
        }
        int[][] w = new int[n][n];
        for (int a = 0; a < n; a++) {
            for (int b = 0; b < n; b++) {
                w[a][b] = a == b ? 0 : 1000000;
            }
        }
        for (int r = n == 1 ? 0 : Math.min(12, below(2 * n)); r > 0; r--) {
            int a = below(n);
            int b = (a + 1 + below(n - 1)) % n;
            int h = 1 + below(longest);
            w[a][b] = Math.min(w[a][b], h);
            w[b][a] = w[a][b];
            oracle.roads++;
            roadLines.append("road ").append(oracle.places.get(a)).append(' ').append(oracle.places.get(b))
                .append(' ').append(h).append(';');
        }
        // As often as there are places, so that no order of going over them matters.
        for (int again = 0; again < n; again++) {
            for (int a = 0; a < n; a++) {
                for (int b = 0; b < n; b++) {
                    for (int c = 0; c < n; c++) {
                        w[a][b] = Math.min(w[a][b], w[a][c] + w[c][b]);
                    }
                }
            }
        }
        for (int[] row : w) {
            for (int b = 0; b < n; b++) {
                row[b] = row[b] >= 1000000 ? -2 : row[b];
            }
        }
        oracle.ways = w;
    }

    private String header() {
        StringBuilder b = new StringBuilder();
        for (String p : oracle.places) {
            b.append("place ").append(p).append(';');
        }
        b.append(roadLines);
        if (random.nextBoolean()) {
            oracle.units = 1 + below(3);
            oracle.cartons = 1 + below(3);
            b.append("fits ").append(oracle.units).append(' ').append(oracle.cartons).append(';');
        }
        return b.toString();
    }

    private Oracle.Msg newMessage() {
        int k = oracle.messages.size();
        // Most runs make their things first, so that later messages find them.
        boolean makesNext = k < things && orderly;
        int n = makesNext ? k : below(things);
        int kind = n % 5 < 3 ? 0 : n % 5 == 3 ? 1 : 2;
        if (below(30) == 0) {
            kind = below(3);
        }
        String act = below(k < 10 ? 2 : 12) == 0 ? "make" : Oracle.ACTS[below(11)];
        if (below(4) == 0) {
            act = "pack";
        } else if (act.equals("end") && below(3) > 0) {
            act = "scan";
        }
        if (makesNext) {
            act = "make";
        }
        int hour = act.equals("make") && below(4) > 0 ? below(3) : Math.min(999, k + below(hourSpan));
        if (below(5) == 0) {
            hour = below(hourSpan);
        }
        int second = -2;
        if (act.equals("pack")) {
            second = below(6) == 0 ? below(things) : kind == 0 ? n / 5 * 5 + 3 : n / 5 * 5 + 4;
        } else if (List.of("make", "move", "scan", "back").contains(act)) {
            second = act.equals("make") && below(3) > 0 ? 0 : below(oracle.places.size());
        }
        if (act.equals("pack")) {
            second = numbers[Math.min(second, numbers.length - 1)];
        }
        Oracle.Msg m = new Oracle.Msg(k, hour, act, numbers[n], second, act.equals("make") ? kind : 0);
        oracle.messages.add(m);
        return m;
    }

    private int n() {
        int r = below(20);
        return r == 0 ? -1 : r == 1 ? 40 : r == 2 ? below(40) : numbers[below(things)];
    }

    private int h() {
        int r = below(12);
        return r == 0 ? -1 : r == 1 ? 1000 : r < 4 ? 999 : below(hourSpan + 30);
    }

    private int k() {
        return below(oracle.messages.size() + 3) - 1;
    }

    private int p() {
        return below(oracle.places.size() + 6) - 5;
    }

    private int i() {
        return below(14) == 0 ? -1 : below(5);
    }

    private void ask(String run, int rounds) {
        Oracle o = oracle;
        for (int c = 0; c < rounds; c++) {
            for (int f = 0; f < 33; f++) {
                // The oracle's dearest ones seldom.
                if ((f == 14 || f == 13 || f == 25) && below(40) > 0 || (f == 22 || f == 23) && below(5) > 0) {
                    continue;
                }
                askOne(run, o, f);
            }
        }
    }

    private void askOne(String run, Oracle o, int f) {
        int n = n();
        int h = h();
        int k = k();
        int p = p();
        int i = i();
        int w = below(12) - 1;
        int s = below(4) - 1;
        int q = p();
        int j = k();
        int g = h();
        int why = below(16) - 2;
        int m = below(3) == 0 ? -1 : below(15) == 0 ? -2 : n;
        String args = run + " f" + f + " n" + n + " h" + h + " k" + k + " p" + p + " i" + i + " w" + w + " s" + s
            + " q" + q + " j" + j + " g" + g + " m" + m + " why" + why;
        switch (f) {
            case 0 -> Due.is(args, x.hours(p, q), o.hours(p, q));
            case 1 -> Due.is(args, Due.message(x, k, w), o.message(k, w));
            case 2, 3, 4 -> Due.is(args, x.thing(n, h, w), o.thing(n, h, w));
            case 5 -> Due.is(args, x.inside(n, h, i), o.inside(n, h, i));
            case 6 -> Due.is(args, x.there(p, h, i), o.there(p, h, i));
            case 7 -> Due.is(args, x.many(h, w), o.many(h, w));
            case 8 -> Due.is(args, x.trail(n, i, s), o.trail(n, i, s));
            case 9 -> Due.is(args, x.known(k, n), o.known(k, n));
            case 10 -> Due.is(args, x.changed(k), o.changed(k));
            case 11 -> Due.is(args, x.without(k, n), o.without(k, n));
            case 12 -> Due.is(args, x.refused(why), o.refused(why));
            case 13 -> Due.is(args, x.blamed(s), o.blamed(s));
            case 14 -> Due.is(args, x.twoBlamed(s), o.twoBlamed(s));
            case 15 -> Due.is(args, x.met(n, h, i), o.met(n, h, i));
            case 16 -> Due.is(args, x.wereIn(n, h, g, i), o.wereIn(n, h, g, i));
            case 17 -> Due.is(args, x.most(n), o.most(n));
            case 18 -> Due.is(args, x.still(n, h), o.still(n, h));
            case 19 -> Due.is(args, x.components(p, h), o.components(p, h));
            case 20 -> Due.is(args, x.dwelt(n, p), o.dwelt(n, p));
            case 21 -> Due.is(args, x.flow(p, q), o.flow(p, q));
            case 22 -> Due.is(args, x.cause(k), o.cause(k));
            case 23 -> Due.is(args, x.needs(k, i), o.needs(k, i));
            case 24 -> Due.is(args, x.ifAt(k, h, m), o.ifAt(k, h, m));
            case 25 -> Due.is(args, x.window(k, s), o.window(k, s));
            case 26 -> Due.is(args, x.lost(h, g % 20, i), o.lost(h, g % 20, i));
            case 27 -> Due.is(args, x.ifSwapped(k, j, m), o.ifSwapped(k, j, m));
            case 28 -> Due.is(args, x.busy(p, s), o.busy(p, s));
            case 29 -> Due.is(args, x.travelled(n), o.travelled(n));
            case 30 -> Due.is(args, x.clash(n, i, s), o.clash(n, i, s));
            case 31 -> Due.is(args, x.soonest(n, h, p), o.soonest(n, h, p));
            default -> Due.is(args, x.count(w), o.count(w));
        }
    }
}
