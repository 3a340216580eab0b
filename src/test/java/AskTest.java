/** Promises 8 to 35, each by itself: ordinary calls, edges, wrong inputs. */
public final class AskTest {
    private static final int MIN = Integer.MIN_VALUE;
    private static final int MAX = Integer.MAX_VALUE;

    // Messages: 0-4 make, 5 pack 1 3, 6 pack 2 3, 7 pack 3 4, 8 move 4 b, 9 out 3, 10 scan 1 c (too soon), 11 sell 4,
    // 12 scan 2 a, 13 back 4 a, 14 end 1, 15 scan 4 b (too soon), 16 scan 1 a (ended).
    private static final String TALE = "place a;place b;place c;road a b 5;road b c 30;"
        + "at 0 make 1 unit a;at 0 make 2 unit a;at 0 make 3 carton a;at 1 make 4 pallet a;at 1 make 5 unit b;"
        + "at 2 pack 1 3;at 3 pack 2 3;at 4 pack 3 4;at 10 move 4 b;at 12 out 3;at 13 scan 1 c;at 14 sell 4;"
        + "at 20 scan 2 a;at 25 back 4 a;at 30 end 1;at 27 scan 4 b;at 40 scan 1 a;";
    private static final PackTracer X = Due.traced(TALE);

    public static void main(String[] args) {
        Due.verdicts(X, "tale", 0, 0, 0, 0, 0, 0, 0, 0, 0, 0, 10, 0, 0, 0, 0, 10, 3);
        things();
        insideAndThere();
        many();
        trails();
        knownAndChanged();
        leftOut();
        refusals();
        blame();
        met();
        wereInAndMost();
        still();
        components();
        dweltAndFlow();
        causeAndNeeds();
        otherHours();
        window();
        lost();
        busyAndTravelled();
        clash();
        soonest();
        Due.end();
    }

    private static void row(String call, int[] got, int... due) {
        for (int i = 0; i < due.length; i++) {
            Due.is(call + " [" + i + "]", got[i], due[i]);
        }
    }

    private static int[] thing(int n, int h) {
        int[] all = new int[10];
        for (int what = 0; what < 10; what++) {
            all[what] = X.thing(n, h, what);
        }
        return all;
    }

    private static void things() {
        row("thing(1, 4)", thing(1, 4), 0, 3, 4, 0, 0, 0, -5, 1, 0, 0);
        row("thing(3, 4)", thing(3, 4), 1, 4, 4, 0, 0, 0, -5, 1, 2, 2);
        row("thing(4, 4)", thing(4, 4), 2, -5, 4, 0, 0, 0, -5, 1, 1, 3);
        row("thing(4, 12)", thing(4, 12), 2, -5, 4, 1, 1, 0, -5, 10, 0, 0);
        row("thing(1, 13)", thing(1, 13), 0, 3, 3, 1, 0, 1, -5, 12, 0, 0);
        row("thing(4, 14)", thing(4, 14), 2, -5, 4, -3, 1, 0, -5, 10, 0, 0);
        row("thing(2, 20)", thing(2, 20), 0, 3, 3, 0, 0, 0, 20, 20, 0, 0);
        row("thing(1, 30)", thing(1, 30), -4, -4, -4, -4, -4, -4, -4, -4, -4, -4);
        row("thing(4, 0)", thing(4, 0), -2, -2, -2, -2, -2, -2, -2, -2, -2, -2);
        row("thing(0, 999)", thing(0, 999), -2, -2, -2, -2, -2, -2, -2, -2, -2, -2);
        int[][] none = {{-1, 0, 0}, {40, 0, 0}, {1, -1, 0}, {1, 1000, 0}, {1, 0, -1}, {1, 0, 10}, {0, 0, 10}, {1, 999, MAX},
            {MIN, 0, 0}, {1, MIN, 0}};
        for (int[] c : none) {
            Due.is("thing NONE", X.thing(c[0], c[1], c[2]), -1);
        }
    }

    private static void insideAndThere() {
        int[] due = {1, 2, 3, -2};
        for (int i = 0; i < 4; i++) {
            Due.is("inside(4, 4)", X.inside(4, 4, i), due[i]);
        }
        Due.is("inside of an empty one", X.inside(4, 12, 0), -2);
        Due.is("inside of one not made", X.inside(0, 4, 0), -2);
        Due.is("inside of an ended one", X.inside(1, 999, 0), -2);
        int[][] none = {{-1, 0, 0}, {40, 0, 0}, {4, -1, 0}, {4, 1000, 0}, {4, 4, -1}, {4, 4, MIN}};
        for (int[] c : none) {
            Due.is("inside NONE", X.inside(c[0], c[1], c[2]), -1);
        }
        Due.is("inside, far too many", X.inside(4, 4, MAX), -2);
        int[][] there = {{0, 0, 1, 2, 3, -2}, {1, 12, 1, 2, 3, 4, 5, -2}, {-3, 14, 4, -2}, {-4, 30, 1, -2}, {-4, 29, -2},
            {0, 999, 2, 3, 4, -2}, {2, 999, -2}, {1, 999, 5, -2}, {-3, 999, -2}};
        for (int[] t : there) {
            for (int i = 2; i < t.length; i++) {
                Due.is("there(" + t[0] + ", " + t[1] + ", " + (i - 2) + ")", X.there(t[0], t[1], i - 2), t[i]);
            }
        }
        int[][] bad = {{3, 0, 0}, {-1, 0, 0}, {-2, 0, 0}, {-5, 0, 0}, {0, -1, 0}, {0, 1000, 0}, {0, 0, -1}, {-3, 0, -1}};
        for (int[] c : bad) {
            Due.is("there NONE", X.there(c[0], c[1], c[2]), -1);
        }
    }

    private static void many() {
        int[][] due = {{0, 3, 0, 0, 0, 3, 0}, {4, 5, 0, 0, 0, 2, 0}, {13, 5, 0, 0, 1, 3, 1}, {14, 5, 1, 0, 1, 3, 1},
            {999, 5, 0, 1, 1, 3, 2}};
        for (int[] d : due) {
            for (int what = 0; what < 6; what++) {
                Due.is("many(" + d[0] + ", " + what + ")", X.many(d[0], what), d[what + 1]);
            }
        }
        Due.is("many(-1, 0)", X.many(-1, 0), -1);
        Due.is("many(1000, 0)", X.many(1000, 0), -1);
        Due.is("many(0, 6)", X.many(0, 6), -1);
        Due.is("many(0, -1)", X.many(0, -1), -1);
        PackTracer x = Due.traced("place a;at 0 make 1 unit a;at 0 make 2 carton a;at 1 pack 1 2;at 2 sell 2;");
        Due.is("sold with all in it", x.many(2, 1), 2);
    }

    private static void trails() {
        int[][] due = {{0, 0, 1, 10, 0, 20, -4, 30}, {0, 0, 1, 10, 0, 20}, {0, 0, 1, 10, 0, 20}, {0, 1, 1, 10, -3, 14, 0, 25},
            {1, 1}};
        for (int n = 1; n <= 5; n++) {
            int[] d = due[n - 1];
            for (int i = 0; i < d.length / 2; i++) {
                Due.is("trail(" + n + ", " + i + ", 0)", X.trail(n, i, 0), d[2 * i]);
                Due.is("trail(" + n + ", " + i + ", 1)", X.trail(n, i, 1), d[2 * i + 1]);
            }
            Due.is("trail's end of " + n, X.trail(n, d.length / 2, 0), -2);
            Due.is("trail's end of " + n, X.trail(n, d.length / 2, 1), -2);
        }
        Due.is("trail of none", X.trail(0, 0, 0), -2);
        int[][] none = {{-1, 0, 0}, {40, 0, 0}, {1, -1, 0}, {1, 0, 2}, {1, 0, -1}, {0, 0, 2}};
        for (int[] c : none) {
            Due.is("trail -10", X.trail(c[0], c[1], c[2]), -10);
        }
        // A place left and come back to within one hour is told each time.
        PackTracer x = Due.traced("place a;at 3 make 1 unit a;at 3 sell 1;at 3 back 1 a;at 4 move 1 a;");
        row("trail in one hour", new int[] {x.trail(1, 0, 0), x.trail(1, 1, 0), x.trail(1, 2, 0), x.trail(1, 2, 1),
            x.trail(1, 3, 0)}, 0, -3, 0, 3, -2);
    }

    private static void knownAndChanged() {
        int[][] due = {{0, 1, -2}, {1, 1, 0}, {8, 1, 0}, {9, 1, 1}, {12, 4, -3}, {13, 2, 0}, {14, 4, 0}, {15, 1, -4}, {17, 1, -4}};
        for (int[] d : due) {
            Due.is("known(" + d[0] + ", " + d[1] + ")", X.known(d[0], d[1]), d[2]);
        }
        int[][] none = {{-1, 0}, {18, 0}, {0, -1}, {0, 40}, {MAX, 1}, {MIN, 1}};
        for (int[] c : none) {
            Due.is("known NONE", X.known(c[0], c[1]), -1);
        }
        int[] changed = {1, 1, 1, 1, 1, 0, 0, 0, 4, 0, 0, 1, 3, 1, 1, 0, 0};
        for (int k = 0; k < changed.length; k++) {
            Due.is("changed(" + k + ")", X.changed(k), changed[k]);
        }
        Due.is("changed(17)", X.changed(17), -1);
        Due.is("changed(-1)", X.changed(-1), -1);
        // A late message: looked at by its hour among those that came ahead of it.
        PackTracer x = Due.traced("place a;place b;road a b 2;at 0 make 1 unit a;at 9 move 1 b;at 5 sell 1;at 7 back 1 a;");
        Due.is("sold ahead of the move, as known by 3", x.known(3, 1), -3);
        Due.is("the late sale changed it", x.changed(2), 1);
        Due.is("and the late coming back", x.known(4, 1), 1);
        Due.is("changed back", x.changed(3), 1);
    }

    private static void leftOut() {
        int[][] due = {{8, 1, -4}, {8, 2, 0}, {11, 4, 1}, {13, 4, -3}, {14, 1, 0}, {0, 1, -2}, {9, 2, 1}, {12, 3, 1}, {2, 2, 0}};
        for (int[] d : due) {
            Due.is("without(" + d[0] + ", " + d[1] + ")", X.without(d[0], d[1]), d[2]);
        }
        int[][] none = {{-1, 0}, {17, 0}, {0, -1}, {0, 40}};
        for (int[] c : none) {
            Due.is("without NONE", X.without(c[0], c[1]), -1);
        }
    }

    private static void refusals() {
        int[] due = {3, 14, 0, 0, 1, 0, 0, 0, 0, 0, 0, 2, 0, 0};
        for (int why = -1; why <= 12; why++) {
            Due.is("refused(" + why + ")", X.refused(why), due[why + 1]);
        }
        Due.is("refused(-2)", X.refused(-2), -2);
        Due.is("refused(13)", X.refused(13), -2);
    }

    private static void blame() {
        Due.is("blamed(0)", X.blamed(0), 10);
        Due.is("blamed(1)", X.blamed(1), 2);
        Due.is("twoBlamed(0)", X.twoBlamed(0), 10);
        Due.is("twoBlamed(1)", X.twoBlamed(1), 14);
        Due.is("twoBlamed(2)", X.twoBlamed(2), 1);
        Due.is("blamed(2)", X.blamed(2), -1);
        Due.is("blamed(-1)", X.blamed(-1), -1);
        Due.is("twoBlamed(3)", X.twoBlamed(3), -1);
        Due.is("twoBlamed(-1)", X.twoBlamed(-1), -1);
        PackTracer x = Due.traced("place a;at 7 make 1 unit a;");
        row("of one", new int[] {x.blamed(0), x.blamed(1), x.twoBlamed(0), x.twoBlamed(1), x.twoBlamed(2), x.twoBlamed(3)},
            0, 0, -2, -2, -2, -1);
        // The first of several, by numbers, not by hours.
        Due.tell(x, "at 6 make 2 unit a;at 5 make 3 unit a;");
        row("of three", new int[] {x.blamed(0), x.blamed(1), x.twoBlamed(0), x.twoBlamed(1), x.twoBlamed(2)}, 0, 0, 0, 1, 0);
        // One whose lack takes two refusals away.
        x = Due.traced("place a;at 1 make 1 unit a;at 3 end 2;at 2 end 1;at 3 sell 1;at 3 free 1;at 4 out 1;at 1 scan 1 a;");
        Due.verdicts(x, "blame", 0, 2, 0, 3, 3, 3, 0);
        row("of an end", new int[] {x.blamed(0), x.blamed(1)}, 1, 3);
        row("two, an end and its follower", new int[] {x.twoBlamed(0), x.twoBlamed(1), x.twoBlamed(2)}, 1, 2, 2);
        PackTracer empty = new PackTracer();
        row("none", new int[] {empty.blamed(0), empty.blamed(1), empty.blamed(2), empty.twoBlamed(0)}, -2, -2, -1, -2);
    }

    private static void met() {
        int[][] due = {{1, 0, 1, 2, 3, 4, -2}, {5, 1, 5, -2}, {4, 12, 4, -2}, {1, 12, 1, 2, 3, -2}, {2, 30, 2, 3, -2},
            {1, 30, -2}, {4, 0, -2}, {9, 0, -2}, {1, 29, 1, 2, 3, -2}};
        for (int[] d : due) {
            for (int i = 2; i < d.length; i++) {
                Due.is("met(" + d[0] + ", " + d[1] + ", " + (i - 2) + ")", X.met(d[0], d[1], i - 2), d[i]);
            }
        }
        int[][] none = {{-1, 0, 0}, {40, 0, 0}, {1, -1, 0}, {1, 1000, 0}, {1, 0, -1}};
        for (int[] c : none) {
            Due.is("met NONE", X.met(c[0], c[1], c[2]), -1);
        }
        // From one to the next: 1 with 2 in a carton, then 2 with 3 in another; 1 ended and the list stays.
        PackTracer x = Due.traced("place a;at 0 make 1 unit a;at 0 make 2 unit a;at 0 make 3 unit a;at 0 make 8 carton a;"
            + "at 0 make 9 carton a;at 1 pack 1 8;at 2 pack 2 8;at 3 end 1;at 4 out 2;at 5 pack 2 9;at 6 pack 3 9;");
        int[] all = {1, 2, 3, 8, 9, -2};
        for (int i = 0; i < all.length; i++) {
            Due.is("met(1, 0)", x.met(1, 0, i), all[i]);
        }
        // The other way round in time: what 3 met was never with 1 from then on.
        row("met(3, 0)", new int[] {x.met(3, 0, 0), x.met(3, 0, 1), x.met(3, 0, 2), x.met(3, 0, 3)}, 2, 3, 9, -2);
        row("met(2, 3)", new int[] {x.met(2, 3, 0), x.met(2, 3, 1), x.met(2, 3, 2), x.met(2, 3, 3)}, 2, 3, 8, 9);
    }

    private static void wereInAndMost() {
        int[][] due = {{4, 0, 999, 1, 2, 3, -2}, {4, 11, 999, 1, 2, 3, -2}, {4, 12, 999, -2}, {3, 0, 2, 1, -2}, {3, 30, 999, 2, -2},
            {3, 29, 30, 1, 2, -2}, {3, 0, 0, -2}, {9, 0, 999, -2}, {3, 2, 2, 1, -2}};
        for (int[] d : due) {
            for (int i = 3; i < d.length; i++) {
                Due.is("wereIn(" + d[0] + ", " + d[1] + ", " + d[2] + ", " + (i - 3) + ")", X.wereIn(d[0], d[1], d[2], i - 3), d[i]);
            }
        }
        int[][] none = {{-1, 0, 0, 0}, {40, 0, 0, 0}, {3, -1, 0, 0}, {3, 0, 1000, 0}, {3, 5, 4, 0}, {3, 0, 5, -1}};
        for (int[] c : none) {
            Due.is("wereIn NONE", X.wereIn(c[0], c[1], c[2], c[3]), -1);
        }
        int[] most = {-2, 0, 0, 2, 3, 0};
        for (int n = 0; n < most.length; n++) {
            Due.is("most(" + n + ")", X.most(n), most[n]);
        }
        Due.is("most(-1)", X.most(-1), -1);
        Due.is("most(40)", X.most(40), -1);
        PackTracer x = Due.traced("place a;at 0 make 1 unit a;at 0 make 2 carton a;at 1 pack 1 2;at 2 end 2;");
        Due.is("most of an ended one", x.most(2), 1);
    }

    private static void still() {
        int[][] due = {{4, 4, 4}, {4, 11, 4}, {4, 12, 12}, {4, 999, 12}, {4, 1, 1}, {3, 0, 0}, {3, 29, 3}, {3, 30, 30}, {1, 29, 0},
            {1, 30, -4}, {4, 0, -2}, {9, 0, -2}};
        for (int[] d : due) {
            Due.is("still(" + d[0] + ", " + d[1] + ")", X.still(d[0], d[1]), d[2]);
        }
        int[][] none = {{-1, 0}, {40, 0}, {3, -1}, {3, 1000}};
        for (int[] c : none) {
            Due.is("still NONE", X.still(c[0], c[1]), -1);
        }
    }

    private static void components() {
        int[][] due = {{0, 0, 3}, {0, 4, 1}, {1, 11, 2}, {1, 12, 3}, {1, 14, 2}, {0, 29, 2}, {0, 30, 3}, {2, 30, 0}};
        for (int[] d : due) {
            Due.is("components(" + d[0] + ", " + d[1] + ")", X.components(d[0], d[1]), d[2]);
        }
        int[][] none = {{3, 0}, {-1, 0}, {-3, 0}, {-4, 0}, {0, -1}, {0, 1000}};
        for (int[] c : none) {
            Due.is("components NONE", X.components(c[0], c[1]), -1);
        }
        PackTracer x = Due.traced("place a;at 0 make 1 unit a;at 0 make 2 carton a;at 0 make 3 pallet a;at 0 pack 1 2;at 0 pack 2 3;"
            + "at 1 open 3;at 2 open 2;at 3 seal 3;");
        row("open and sealed", new int[] {x.components(0, 0), x.components(0, 1), x.components(0, 2), x.components(0, 3)}, 1, 2, 3, 2);
    }

    private static void dweltAndFlow() {
        int[][] due = {{1, 0, 20}, {1, 1, 10}, {1, -3, 0}, {2, 0, 30}, {2, 1, 10}, {4, 0, 24}, {4, 1, 4}, {4, -3, 11}, {5, 1, 39},
            {9, 0, 0}, {1, 2, 0}};
        for (int[] d : due) {
            Due.is("dwelt(" + d[0] + ", " + d[1] + ")", X.dwelt(d[0], d[1]), d[2]);
        }
        int[][] none = {{-1, 0}, {40, 0}, {1, 3}, {1, -1}, {1, -2}, {1, -4}};
        for (int[] c : none) {
            Due.is("dwelt NONE", X.dwelt(c[0], c[1]), -1);
        }
        int[][] flow = {{0, 1, 4}, {1, 0, 3}, {1, -3, 1}, {-3, 0, 1}, {0, -4, 1}, {0, 2, 0}, {-3, -4, 0}, {0, -3, 0}};
        for (int[] d : flow) {
            Due.is("flow(" + d[0] + ", " + d[1] + ")", X.flow(d[0], d[1]), d[2]);
        }
        int[][] bad = {{0, 0}, {-3, -3}, {-4, 0}, {3, 0}, {0, 3}, {0, -1}, {-1, 0}, {0, -2}, {-4, -4}};
        for (int[] c : bad) {
            Due.is("flow NONE", X.flow(c[0], c[1]), -1);
        }
        PackTracer x = Due.traced("place a;at 0 make 1 unit a;at 1 sell 1;at 3 end 1;at 9 free 1;");
        row("sold and ended", new int[] {x.flow(-3, -4), x.dwelt(1, -3), x.dwelt(1, 0)}, 1, 2, 1);
    }

    private static void causeAndNeeds() {
        // 15 scans the pallet at b two hours after it came back to a: without 9 (out) a quarantined unit
        // would be in it, it would not be sold, nor come back.
        int[] cause = {-3, -3, -3, -3, -3, -3, -3, -3, -3, -3, -2, -3, -3, -3, -3, 9, 14};
        for (int k = 0; k < cause.length; k++) {
            Due.is("cause(" + k + ")", X.cause(k), cause[k]);
        }
        Due.is("cause(17)", X.cause(17), -1);
        Due.is("cause(-1)", X.cause(-1), -1);
        int[][] needs = {{5, 0, 2, -2}, {7, 2, 3, -2}, {8, 3, -2}, {9, 2, 3, 7, -2}, {11, 3, 9, -2}, {13, 3, 9, 11, -2}, {14, 0, -2},
            {0, -2}, {10, -3}, {16, -3}};
        for (int[] d : needs) {
            for (int i = 1; i < d.length; i++) {
                Due.is("needs(" + d[0] + ", " + (i - 1) + ")", X.needs(d[0], i - 1), d[i]);
            }
        }
        Due.is("needs(17, 0)", X.needs(17, 0), -1);
        Due.is("needs(-1, 0)", X.needs(-1, 0), -1);
        Due.is("needs(5, -1)", X.needs(5, -1), -1);
        Due.is("needs(10, -1)", X.needs(10, -1), -1);
    }

    private static void otherHours() {
        int[][] due = {{10, 13, -1, 3}, {10, 50, -1, 3}, {8, 3, -1, 4}, {8, 3, 1, -4}, {8, 3, 2, 0}, {14, 0, 1, -4}, {14, 0, -1, 4},
            {0, 41, 1, 0}, {13, 999, 4, 0}, {13, 13, 4, -3}, {0, 999, 7, -2}};
        for (int[] d : due) {
            Due.is("ifAt(" + d[0] + ", " + d[1] + ", " + d[2] + ")", X.ifAt(d[0], d[1], d[2]), d[3]);
        }
        int[][] none = {{-1, 0, 0}, {17, 0, 0}, {0, -1, 0}, {0, 1000, 0}, {0, 0, -2}, {0, 0, 40}};
        for (int[] c : none) {
            Due.is("ifAt -1000", X.ifAt(c[0], c[1], c[2]), -1000);
        }
        int[][] swapped = {{11, 13, -1, 4}, {11, 13, 4, -3}, {13, 11, 4, -3}, {0, 1, -1, 3}, {9, 8, 3, 0}, {9, 8, 4, 0}};
        for (int[] d : swapped) {
            Due.is("ifSwapped(" + d[0] + ", " + d[1] + ", " + d[2] + ")", X.ifSwapped(d[0], d[1], d[2]), d[3]);
        }
        int[][] bad = {{-1, 0, 0}, {0, -1, 0}, {17, 0, 0}, {0, 17, 0}, {3, 3, 0}, {0, 1, -2}, {0, 1, 40}};
        for (int[] c : bad) {
            Due.is("ifSwapped -1000", X.ifSwapped(c[0], c[1], c[2]), -1000);
        }
    }

    private static void window() {
        PackTracer x = Due.traced("place a;place b;road a b 5;at 0 make 1 unit a;at 10 move 1 b;at 20 sell 1;at 30 end 1;"
            + "at 31 free 1;at 7 make 1 unit b;");
        // The move: from 5 on, and to the hour of the end (the sale is refused), ahead of it by its number.
        row("move", new int[] {x.window(1, 0), x.window(1, 1), x.window(1, 2)}, 5, 30, 26);
        // The second make quarantines by hour 7: no sale but ahead of it.
        Due.verdicts(x, "window", 0, 0, 11, 0, 3, 1);
        row("sale", new int[] {x.window(2, 0), x.window(2, 1), x.window(2, 2)}, 0, 7, 8);
        row("first make, told at 7 it is ahead of the other", new int[] {x.window(0, 0), x.window(0, 1), x.window(0, 2)}, 0, 7, 8);
        row("free, by hours 7 to 29", new int[] {x.window(4, 0), x.window(4, 1), x.window(4, 2)}, 8, 29, 22);
        row("second make", new int[] {x.window(5, 0), x.window(5, 1), x.window(5, 2)}, -2, -2, 0);
        int[][] none = {{-1, 0}, {6, 0}, {0, 3}, {0, -1}};
        for (int[] c : none) {
            Due.is("window NONE", x.window(c[0], c[1]), -1);
        }
    }

    private static void lost() {
        int[][] due = {{20, 0, 1, 2, 3, 5, -2}, {20, 1, 5, -2}, {20, 19, 5, -2}, {20, 20, -2}, {4, 3, 1, 2, 3, 4, 5, -2}, {4, 4, -2},
            {999, 974, 2, 3, 4, 5, -2}, {999, 975, 2, 3, 5, -2}, {999, 999, -2}};
        for (int[] d : due) {
            for (int i = 2; i < d.length; i++) {
                Due.is("lost(" + d[0] + ", " + d[1] + ", " + (i - 2) + ")", X.lost(d[0], d[1], i - 2), d[i]);
            }
        }
        int[][] none = {{-1, 0, 0}, {1000, 0, 0}, {0, -1, 0}, {0, 1000, 0}, {20, 0, -1}};
        for (int[] c : none) {
            Due.is("lost NONE", X.lost(c[0], c[1], c[2]), -1);
        }
    }

    private static void busyAndTravelled() {
        int[][] due = {{0, 4, 1}, {1, 5, 10}, {2, 0, 0}, {-3, 1, 14}, {-4, 1, 30}};
        for (int[] d : due) {
            Due.is("busy(" + d[0] + ", 0)", X.busy(d[0], 0), d[1]);
            Due.is("busy(" + d[0] + ", 1)", X.busy(d[0], 1), d[2]);
        }
        int[][] none = {{3, 0}, {-1, 0}, {-2, 0}, {-5, 0}, {0, 2}, {0, -1}};
        for (int[] c : none) {
            Due.is("busy NONE", X.busy(c[0], c[1]), -1);
        }
        PackTracer x = Due.traced("place a;at 8 end 3;at 5 end 3;");
        row("nobody anywhere", new int[] {x.busy(0, 0), x.busy(0, 1), x.busy(-3, 1)}, 0, 5, 5);
        int[] travelled = {-2, 10, 10, 10, 10, 0};
        for (int n = 0; n < travelled.length; n++) {
            Due.is("travelled(" + n + ")", X.travelled(n), travelled[n]);
        }
        Due.is("travelled(-1)", X.travelled(-1), -1);
        Due.is("travelled(40)", X.travelled(40), -1);
        x = Due.traced("place a;place b;place c;road a b 3;at 0 make 1 unit a;at 1 sell 1;at 2 back 1 b;at 3 sell 1;at 4 back 1 c;"
            + "at 5 sell 1;at 6 back 1 c;at 7 end 1;");
        Due.is("travelled over sales", x.travelled(1), 3);
    }

    private static void clash() {
        row("clash of 1", new int[] {X.clash(1, 0, 0), X.clash(1, 0, 1), X.clash(1, 0, 2), X.clash(1, 1, 0)}, 2, 13, 10, -2);
        row("clash of 4", new int[] {X.clash(4, 0, 0), X.clash(4, 0, 1), X.clash(4, 0, 2), X.clash(4, 1, 2)}, 1, 27, 15, -2);
        row("clash of others", new int[] {X.clash(2, 0, 0), X.clash(9, 0, 0)}, -2, -2);
        int[][] none = {{-1, 0, 0}, {40, 0, 0}, {1, -1, 0}, {1, 0, 3}, {1, 0, -1}};
        for (int[] c : none) {
            Due.is("clash NONE", X.clash(c[0], c[1], c[2]), -1);
        }
        PackTracer x = Due.traced("place a;place b;at 9 scan 1 b;at 0 make 1 unit a;at 5 scan 1 b;at 6 sell 1;at 7 scan 1 a;at 8 move 1 b;");
        row("clashes by hours", new int[] {x.clash(1, 0, 2), x.clash(1, 1, 2), x.clash(1, 2, 2)}, 2, 0, -2);
    }

    private static void soonest() {
        int[][] due = {{1, 4, 0, 4}, {1, 4, 1, 6}, {1, 4, 2, 36}, {1, 12, 0, 17}, {1, 19, 0, 19}, {4, 14, 0, -3}, {1, 30, 0, -4},
            {4, 0, 0, -2}, {9, 0, 0, -2}, {4, 999, 1, 999}, {5, 999, 2, 999}};
        for (int[] d : due) {
            Due.is("soonest(" + d[0] + ", " + d[1] + ", " + d[2] + ")", X.soonest(d[0], d[1], d[2]), d[3]);
        }
        int[][] none = {{-1, 0, 0}, {40, 0, 0}, {1, -1, 0}, {1, 1000, 0}, {1, 0, 3}, {1, 0, -1}, {1, 0, -3}};
        for (int[] c : none) {
            Due.is("soonest NONE", X.soonest(c[0], c[1], c[2]), -1);
        }
        PackTracer x = Due.traced("place a;place b;at 990 make 1 unit a;");
        row("no way", new int[] {x.soonest(1, 999, 1), x.soonest(1, 999, 0), x.soonest(1, 5, 1)}, -2, 999, -2);
        x = Due.traced("place a;place b;road a b 99;at 990 make 1 unit a;");
        Due.is("beyond the last hour", x.soonest(1, 999, 1), 1089);
    }
}
