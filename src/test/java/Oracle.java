import java.util.ArrayList;
import java.util.Collections;
import java.util.Comparator;
import java.util.HashSet;
import java.util.List;
import java.util.Map;
import java.util.Set;
import java.util.TreeMap;
import java.util.TreeSet;

/** The document said once more, slowly and with the Java library, to hold PackTracer against. */
final class Oracle {
    static final String[] ACTS = {"make", "pack", "out", "open", "seal", "move", "scan", "sell", "back", "end", "free"};
    static final String[] KINDS = {"unit", "carton", "pallet"};

    /** One message; second is a thing, a place or -2. */
    record Msg(int number, int hour, String act, int first, int second, int kind) {
        Msg at(int other) {
            return new Msg(number, other, act, first, second, kind);
        }

        String line(List<String> places) {
            StringBuilder b = new StringBuilder("at ").append(hour).append(' ').append(act).append(' ').append(first);
            if (act.equals("make")) {
                b.append(' ').append(KINDS[kind]);
            }
            if (act.equals("pack")) {
                b.append(' ').append(second);
            } else if (second >= 0) {
                b.append(' ').append(places.get(second));
            }
            return b.append(';').toString();
        }
    }

    static final class Thing {
        int number;
        int kind;
        Thing in;
        int place;
        int last;
        int seen = -5;
        boolean open;
        boolean sold;
        boolean ended;
        boolean quarantined;

        Thing top() {
            return in == null ? this : in.top();
        }

        boolean within(Thing outer) {
            return in != null && (in == outer || in.within(outer));
        }

        int where() {
            return ended ? -4 : top().sold ? -3 : top().place;
        }
    }

    /** All things behind a message; why it was refused. */
    static final class Snap {
        Msg behind;
        int why;
        TreeMap<Integer, Thing> things = new TreeMap<>();

        Snap copy() {
            Snap s = new Snap();
            for (Thing t : things.values()) {
                Thing c = new Thing();
                c.number = t.number;
                c.kind = t.kind;
                c.place = t.place;
                c.last = t.last;
                c.seen = t.seen;
                c.open = t.open;
                c.sold = t.sold;
                c.ended = t.ended;
                c.quarantined = t.quarantined;
                s.things.put(c.number, c);
            }
            for (Thing t : things.values()) {
                if (t.in != null) {
                    s.things.get(t.number).in = s.things.get(t.in.number);
                }
            }
            return s;
        }

        int where(int n) {
            return things.containsKey(n) ? things.get(n).where() : -2;
        }

        TreeSet<Integer> within(int n) {
            TreeSet<Integer> all = new TreeSet<>();
            if (things.containsKey(n)) {
                for (Thing t : things.values()) {
                    if (t.within(things.get(n))) {
                        all.add(t.number);
                    }
                }
            }
            return all;
        }
    }

    List<String> places = new ArrayList<>();
    int[][] ways;
    int roads;
    int units = 10;
    int cartons = 10;
    List<Msg> messages = new ArrayList<>();
    private List<Snap> storyKept;
    private int storySize = -1;

    // ---- looking at messages

    List<Snap> play(List<Msg> list) {
        List<Msg> ordered = new ArrayList<>(list);
        ordered.sort(Comparator.comparingInt(Msg::hour).thenComparingInt(Msg::number));
        List<Snap> snaps = new ArrayList<>();
        Snap now = new Snap();
        for (Msg m : ordered) {
            now = now.copy();
            now.behind = m;
            now.why = 0;
            for (int why = 1; why <= 12 && now.why == 0; why++) {
                if (has(now, m, why)) {
                    now.why = why;
                }
            }
            Thing t = now.things.get(m.first());
            if (now.why == 0) {
                take(now, m);
            } else if (now.why == 1 && !t.ended) {
                t.quarantined = true;
            } else if (m.act().equals("scan") && (now.why == 6 || now.why == 10)) {
                t.quarantined = true;
            }
            snaps.add(now);
        }
        return snaps;
    }

    private static boolean one(String act, String list) {
        return (" " + list + " ").contains(" " + act + " ");
    }

    private boolean has(Snap s, Msg m, int why) {
        String act = m.act();
        Thing a = s.things.get(m.first());
        boolean pack = act.equals("pack");
        Thing b = pack ? s.things.get(m.second()) : null;
        if (why == 1) {
            return act.equals("make") && a != null;
        }
        if (act.equals("make")) {
            return false;
        }
        switch (why) {
            case 2:
                return a == null || pack && b == null;
            case 3:
                return a.ended || pack && b.ended;
            case 4:
                return pack && b.kind - a.kind != 1;
            case 5:
                return pack && a.in != null || act.equals("out") && a.in == null;
            case 6:
                if (act.equals("back")) {
                    return !(a.in == null && a.sold);
                }
                return one(act, "pack out open seal move scan sell") && a.top().sold || pack && b.top().sold;
            case 7:
                return pack && (a.top().place != b.top().place || s.things.values().stream()
                    .filter(t -> t.in == b).count() >= (b.kind == 1 ? units : cartons));
            case 8:
                return act.equals("open") && (a.open || a.kind == 0) || act.equals("seal") && !a.open;
            case 9:
                return one(act, "move sell back") && a.in != null;
            case 10:
                return one(act, "move scan") && soon(a.top(), m.second(), m.hour());
            case 11:
                return one(act, "pack sell") && s.things.values().stream()
                    .anyMatch(t -> t.quarantined && (t == a || t.within(a)));
            default:
                return act.equals("free") && !a.quarantined;
        }
    }

    private boolean soon(Thing top, int to, int hour) {
        return top.place != to && (ways[top.place][to] < 0 || hour - top.last < ways[top.place][to]);
    }

    private void take(Snap s, Msg m) {
        Thing t = s.things.get(m.first());
        switch (m.act()) {
            case "make" -> {
                t = new Thing();
                t.number = m.first();
                t.kind = m.kind();
                t.place = m.second();
                t.last = m.hour();
                s.things.put(t.number, t);
            }
            case "pack" -> t.in = s.things.get(m.second());
            case "out" -> {
                t.place = t.top().place;
                t.in.open = true;
                t.in = null;
                t.last = m.hour();
            }
            case "open" -> t.open = true;
            case "seal" -> t.open = false;
            case "move" -> {
                t.place = m.second();
                t.last = m.hour();
            }
            case "sell" -> t.sold = true;
            case "back" -> {
                t.sold = false;
                t.place = m.second();
                t.last = m.hour();
            }
            case "free" -> t.quarantined = false;
            case "end" -> end(s, t);
            default -> scan(t, m);
        }
    }

    private void scan(Thing t, Msg m) {
        t.seen = m.hour();
        Thing moved = t.top();
        if (moved.place != m.second()) {
            for (Thing x = t; x.in != null; x = x.in) {
                if (x.in.open) {
                    moved = x;
                    break;
                }
            }
            moved.in = null;
            moved.place = m.second();
        }
        moved.last = m.hour();
    }

    private void end(Snap s, Thing t) {
        Set<Thing> all = new HashSet<>();
        for (Thing x : s.things.values()) {
            if (x == t || x.within(t)) {
                all.add(x);
            }
        }
        if (t.in != null) {
            t.in.open = true;
        }
        for (Thing x : all) {
            x.ended = true;
            x.in = null;
            x.quarantined = false;
        }
    }

    // ---- views

    List<Snap> story() {
        if (storySize != messages.size()) {
            storyKept = play(messages);
            storySize = messages.size();
        }
        return storyKept;
    }

    static Snap end(List<Snap> snaps) {
        return snaps.isEmpty() ? new Snap() : snaps.get(snaps.size() - 1);
    }

    Snap by(int h) {
        Snap s = new Snap();
        for (Snap x : story()) {
            if (x.behind.hour() <= h) {
                s = x;
            }
        }
        return s;
    }

    List<Snap> since(int h) {
        List<Snap> all = new ArrayList<>();
        for (Snap x : story()) {
            if (x.behind.hour() > h) {
                all.add(x);
            }
        }
        return all;
    }

    List<Msg> without(int... ks) {
        List<Msg> list = new ArrayList<>(messages);
        for (int k : ks) {
            list.removeIf(m -> m.number() == k);
        }
        return list;
    }

    static int refusedOf(List<Snap> snaps) {
        return (int) snaps.stream().filter(s -> s.why != 0).count();
    }

    static int whyOf(List<Snap> snaps, int k) {
        return snaps.stream().filter(s -> s.behind.number() == k).findFirst().orElseThrow().why;
    }

    boolean place(int p) {
        return p >= 0 && p < places.size();
    }

    static boolean thing(int n) {
        return n >= 0 && n < 40;
    }

    static boolean hour(int h) {
        return h >= 0 && h < 1000;
    }

    boolean msg(int k) {
        return k >= 0 && k < messages.size();
    }

    static int ith(Iterable<Integer> all, int i) {
        int left = i;
        for (int x : all) {
            if (left-- == 0) {
                return x;
            }
        }
        return -2;
    }

    List<int[]> trailOf(int n) {
        List<int[]> trail = new ArrayList<>();
        for (Snap s : story()) {
            int w = s.where(n);
            if (w != -2 && (trail.isEmpty() || trail.get(trail.size() - 1)[0] != w)) {
                trail.add(new int[] {w, s.behind.hour()});
            }
        }
        return trail;
    }

    // ---- the face

    int hours(int a, int b) {
        return !place(a) || !place(b) ? -1 : ways[a][b];
    }

    /** -1000001: IndexOutOfBoundsException, -1000002: NoSuchElementException. */
    int message(int k, int what) {
        if (!msg(k)) {
            return -1000001;
        }
        Msg m = messages.get(k);
        switch (what) {
            case 0: return m.hour();
            case 1: return List.of(ACTS).indexOf(m.act());
            case 2: return m.first();
            case 3: return m.second();
            case 4: return whyOf(story(), k);
            case 5:
                for (int p = 0; p < story().size(); p++) {
                    if (story().get(p).behind.number() == k) {
                        return p;
                    }
                }
                return -99;
            case 6: return late(k) ? 1 : 0;
            default: return -1000002;
        }
    }

    boolean late(int k) {
        return messages.subList(0, k).stream().anyMatch(m -> m.hour() > messages.get(k).hour());
    }

    int thing(int n, int h, int what) {
        if (!thing(n) || !hour(h) || what < 0 || what > 9) {
            return -1;
        }
        Snap s = by(h);
        Thing t = s.things.get(n);
        if (t == null) {
            return -2;
        }
        if (t.ended) {
            return -4;
        }
        switch (what) {
            case 0: return t.kind;
            case 1: return t.in == null ? -5 : t.in.number;
            case 2: return t.top().number;
            case 3: return t.where();
            case 4: return t.open ? 1 : 0;
            case 5: return t.quarantined ? 1 : 0;
            case 6: return t.seen;
            case 7: return t.top().last;
            case 8: return (int) s.things.values().stream().filter(x -> x.in == t).count();
            default: return s.within(n).size();
        }
    }

    int inside(int n, int h, int i) {
        return !thing(n) || !hour(h) || i < 0 ? -1 : ith(by(h).within(n), i);
    }

    int there(int place, int h, int i) {
        if (!place(place) && place != -3 && place != -4 || !hour(h) || i < 0) {
            return -1;
        }
        List<Integer> all = new ArrayList<>();
        Snap s = by(h);
        for (int n : s.things.keySet()) {
            if (s.where(n) == place) {
                all.add(n);
            }
        }
        return ith(all, i);
    }

    int many(int h, int what) {
        if (!hour(h) || what < 0 || what > 5) {
            return -1;
        }
        int c = 0;
        for (Thing t : by(h).things.values()) {
            boolean[] so = {true, t.where() == -3, t.ended, t.quarantined, t.in == null && !t.ended, t.open};
            c += so[what] ? 1 : 0;
        }
        return c;
    }

    int trail(int n, int i, int what) {
        if (!thing(n) || i < 0 || what < 0 || what > 1) {
            return -10;
        }
        List<int[]> t = trailOf(n);
        return i < t.size() ? t.get(i)[what] : -2;
    }

    int known(int k, int n) {
        return k < 0 || k > messages.size() || !thing(n) ? -1 : end(play(messages.subList(0, k))).where(n);
    }

    int changed(int k) {
        if (!msg(k)) {
            return -1;
        }
        Snap a = end(play(messages.subList(0, k)));
        Snap b = end(play(messages.subList(0, k + 1)));
        int c = 0;
        for (int n = 0; n < 40; n++) {
            c += a.where(n) != b.where(n) ? 1 : 0;
        }
        return c;
    }

    int without(int k, int n) {
        return !msg(k) || !thing(n) ? -1 : end(play(without(new int[] {k}))).where(n);
    }

    int refused(int why) {
        if (why < -1 || why > 12) {
            return -2;
        }
        return (int) story().stream().filter(s -> why == -1 ? s.why != 0 : s.why == why).count();
    }

    int blamed(int what) {
        if (what < 0 || what > 1) {
            return -1;
        }
        int best = -2;
        int left = -2;
        for (int k = 0; k < messages.size(); k++) {
            int r = refusedOf(play(without(new int[] {k})));
            if (best < 0 || r < left) {
                best = k;
                left = r;
            }
        }
        return what == 0 ? best : left;
    }

    private int[] twoKept;
    private int twoSize = -1;

    int twoBlamed(int what) {
        if (what < 0 || what > 2) {
            return -1;
        }
        if (twoSize != messages.size()) {
            twoSize = messages.size();
            twoKept = new int[] {-2, -2, -2};
            for (int k = 0; k < messages.size(); k++) {
                for (int j = k + 1; j < messages.size(); j++) {
                    int r = refusedOf(play(without(k, new int[] {j})));
                    if (twoKept[2] < 0 || r < twoKept[2]) {
                        twoKept = new int[] {k, j, r};
                    }
                }
            }
        }
        return twoKept[what];
    }

    private List<Msg> without(int k, int[] j) {
        return without(new int[] {k, j[0]});
    }

    int met(int n, int h, int i) {
        if (!thing(n) || !hour(h) || i < 0) {
            return -1;
        }
        Snap first = by(h);
        if (first.where(n) == -2 || first.where(n) == -4) {
            return -2;
        }
        TreeSet<Integer> met = new TreeSet<>(Set.of(n));
        List<Snap> all = new ArrayList<>(List.of(first));
        all.addAll(since(h));
        for (Snap s : all) {
            for (int x : new ArrayList<>(met)) {
                Thing t = s.things.get(x);
                for (Thing o : s.things.values()) {
                    if (!t.ended && !o.ended && o.top() == t.top()) {
                        met.add(o.number);
                    }
                }
            }
        }
        return ith(met, i);
    }

    int wereIn(int n, int a, int b, int i) {
        if (!thing(n) || !hour(a) || !hour(b) || b < a || i < 0) {
            return -1;
        }
        TreeSet<Integer> all = by(a).within(n);
        for (Snap s : since(a)) {
            if (s.behind.hour() <= b) {
                all.addAll(s.within(n));
            }
        }
        return ith(all, i);
    }

    int most(int n) {
        if (!thing(n)) {
            return -1;
        }
        return end(story()).where(n) == -2 ? -2 : story().stream().mapToInt(s -> s.within(n).size()).max().orElse(0);
    }

    int still(int n, int h) {
        if (!thing(n) || !hour(h)) {
            return -1;
        }
        int w = by(h).where(n);
        if (w == -2 || w == -4) {
            return w;
        }
        int hour = -99;
        Snap before = new Snap();
        for (Snap s : story()) {
            if (s.behind.hour() <= h) {
                if (before.where(n) == -2 && s.where(n) != -2 || !before.within(n).equals(s.within(n))) {
                    hour = s.behind.hour();
                }
            }
            before = s;
        }
        return hour;
    }

    int components(int place, int h) {
        if (!place(place) || !hour(h)) {
            return -1;
        }
        Map<Integer, Integer> head = new TreeMap<>();
        for (Thing t : by(h).things.values()) {
            if (t.where() == place) {
                Thing x = t;
                while (x.in != null && !x.in.open) {
                    x = x.in;
                }
                head.put(t.number, x.number);
            }
        }
        return new HashSet<>(head.values()).size();
    }

    int dwelt(int n, int place) {
        if (!thing(n) || !place(place) && place != -3) {
            return -1;
        }
        List<int[]> t = trailOf(n);
        int latest = messages.stream().mapToInt(Msg::hour).max().orElse(0);
        int sum = 0;
        for (int i = 0; i < t.size(); i++) {
            if (t.get(i)[0] == place) {
                sum += (i + 1 < t.size() ? t.get(i + 1)[1] : latest) - t.get(i)[1];
            }
        }
        return sum;
    }

    int flow(int a, int b) {
        if (!place(a) && a != -3 || !place(b) && b != -3 && b != -4 || a == b) {
            return -1;
        }
        int c = 0;
        for (int n = 0; n < 40; n++) {
            List<int[]> t = trailOf(n);
            for (int i = 1; i < t.size(); i++) {
                c += t.get(i - 1)[0] == a && t.get(i)[0] == b ? 1 : 0;
            }
        }
        return c;
    }

    int cause(int k) {
        if (!msg(k)) {
            return -1;
        }
        if (whyOf(story(), k) == 0) {
            return -3;
        }
        for (int j = 0; j < messages.size(); j++) {
            if (j != k && whyOf(play(without(new int[] {j})), k) == 0) {
                return j;
            }
        }
        return -2;
    }

    int needs(int k, int i) {
        if (!msg(k) || i < 0) {
            return -1;
        }
        if (whyOf(story(), k) != 0) {
            return -3;
        }
        List<Integer> all = new ArrayList<>();
        for (int j = 0; j < messages.size(); j++) {
            if (j != k && whyOf(play(without(new int[] {j})), k) != 0) {
                all.add(j);
            }
        }
        return ith(all, i);
    }

    private int outcome(List<Msg> list, int n) {
        List<Snap> s = play(list);
        return n == -1 ? refusedOf(s) : end(s).where(n);
    }

    int ifAt(int k, int hour, int n) {
        if (!msg(k) || !hour(hour) || n != -1 && !thing(n)) {
            return -1000;
        }
        List<Msg> list = new ArrayList<>(messages);
        list.set(k, list.get(k).at(hour));
        return outcome(list, n);
    }

    int ifSwapped(int k, int j, int n) {
        if (!msg(k) || !msg(j) || k == j || n != -1 && !thing(n)) {
            return -1000;
        }
        List<Msg> list = new ArrayList<>(messages);
        list.set(k, list.get(k).at(messages.get(j).hour()));
        list.set(j, list.get(j).at(messages.get(k).hour()));
        return outcome(list, n);
    }

    int window(int k, int what) {
        if (!msg(k) || what < 0 || what > 2) {
            return -1;
        }
        List<Integer> hours = new ArrayList<>();
        for (int h = 0; h < 1000; h++) {
            List<Msg> list = new ArrayList<>(messages);
            list.set(k, list.get(k).at(h));
            if (whyOf(play(list), k) == 0) {
                hours.add(h);
            }
        }
        if (what == 2) {
            return hours.size();
        }
        return hours.isEmpty() ? -2 : what == 0 ? hours.get(0) : hours.get(hours.size() - 1);
    }

    int lost(int h, int n, int i) {
        if (!hour(h) || !hour(n) || i < 0) {
            return -1;
        }
        List<Integer> all = new ArrayList<>();
        for (Thing t : by(h).things.values()) {
            if (t.where() >= 0 && h - t.top().last >= n) {
                all.add(t.number);
            }
        }
        return ith(all, i);
    }

    int busy(int place, int what) {
        if (!place(place) && place != -3 && place != -4 || what < 0 || what > 1) {
            return -1;
        }
        int[] best = {0, -2};
        boolean any = false;
        for (Snap s : story()) {
            int c = Collections.frequency(s.things.values().stream().map(Thing::where).toList(), place);
            if (!any || c > best[0]) {
                best = new int[] {c, s.behind.hour()};
            }
            any = true;
        }
        return best[what];
    }

    int travelled(int n) {
        if (!thing(n)) {
            return -1;
        }
        List<int[]> t = trailOf(n);
        if (t.isEmpty()) {
            return -2;
        }
        t.removeIf(x -> x[0] < 0);
        int sum = 0;
        for (int i = 1; i < t.size(); i++) {
            sum += Math.max(0, ways[t.get(i - 1)[0]][t.get(i)[0]]);
        }
        return sum;
    }

    int clash(int n, int i, int what) {
        if (!thing(n) || i < 0 || what < 0 || what > 2) {
            return -1;
        }
        int left = i;
        for (Snap s : story()) {
            Msg m = s.behind;
            if (m.first() == n && m.act().equals("scan") && (s.why == 6 || s.why == 10) && left-- == 0) {
                return what == 0 ? m.second() : what == 1 ? m.hour() : m.number();
            }
        }
        return -2;
    }

    int soonest(int n, int h, int place) {
        if (!thing(n) || !hour(h) || !place(place)) {
            return -1;
        }
        int w = by(h).where(n);
        if (w < 0) {
            return w;
        }
        if (w == place) {
            return h;
        }
        return ways[w][place] < 0 ? -2 : Math.max(h, by(h).things.get(n).top().last + ways[w][place]);
    }

    int count(int what) {
        switch (what) {
            case 0: return places.size();
            case 1: return roads;
            case 2: return messages.size();
            case 3:
                int c = 0;
                for (int k = 0; k < messages.size(); k++) {
                    c += late(k) ? 1 : 0;
                }
                return c;
            case 4: return units;
            case 5: return cartons;
            case 6: return 0;
            default: return -1;
        }
    }
}
