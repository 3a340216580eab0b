/** "==== 2." of the document, its second half: what a taken message does; and promise 7. */
final class DeedEdges {
    // Unit 1 in carton 2 on pallet 3, unit 4 in carton 2; carton 5 by itself. Messages 0 to 7.
    private static final String PACKED = "at 0 make 1 unit a;at 0 make 2 carton a;at 0 make 3 pallet a;at 0 make 4 unit a;"
        + "at 0 make 5 carton a;"
        + "at 1 pack 1 2;at 1 pack 4 2;at 2 pack 2 3;";

    private final Sentences doc;

    DeedEdges(Sentences doc) {
        this.doc = doc;
    }

    void run() {
        terms();
        last();
        makeAndPack();
        outOpenSeal();
        moveSellBack();
        endAndFree();
        scanWhereItIs();
        scanElsewhere();
        scanRefused();
        message();
    }

    /** Lines behind the packed things: their own verdicts. */
    private static PackTracer packed(String lines, int... why) {
        PackTracer x = Due.traced("place a;place b;place c;road a b 5;" + PACKED + lines);
        Due.is("messages of " + lines, x.count(2), why.length + 8);
        for (int k = 0; k < why.length; k++) {
            Due.is(lines + " message " + k + " of these", Due.message(x, k + 8, 4), why[k]);
        }
        return x;
    }

    /** One what of things 1 to 5 by an hour. */
    private static int[] all(PackTracer x, int h, int what) {
        int[] got = new int[5];
        for (int n = 1; n <= 5; n++) {
            got[n - 1] = x.thing(n, h, what);
        }
        return got;
    }

    private void terms() {
        doc.says("2", "IN: a THING is in the one into which it was packed last, if it isn't out since;");
        PackTracer x = packed("at 3 out 1;at 4 pack 1 5;at 5 pack 1 2;at 6 out 1;", 0, 0, 5, 0);
        Due.row("1 is in", new int[] {x.thing(1, 0, 1), x.thing(1, 1, 1), x.thing(1, 3, 1), x.thing(1, 4, 1),
            x.thing(1, 5, 1), x.thing(1, 6, 1)},
            -5, 2, -5, 5, 5, -5);

        doc.says("2", "what is topmost of it: that one, or the one it is in, and so on.");
        Due.row("by hour 0", all(x, 0, 2), 1, 2, 3, 4, 5);
        Due.row("by hour 1", all(x, 1, 2), 2, 2, 3, 2, 5);
        Due.row("by hour 2", all(x, 2, 2), 3, 3, 3, 3, 5);
        Due.row("by hour 4", all(x, 4, 2), 5, 3, 3, 3, 5);

        doc.says("2", "PLACE of a THING: that of what is topmost of it.");
        x = packed("at 7 move 3 b;at 12 move 3 a;at 13 out 2;at 18 move 2 b;", 0, 0, 0, 0);
        Due.row("by hour 7", all(x, 7, 3), 1, 1, 1, 1, 0);
        Due.row("by hour 12", all(x, 12, 3), 0, 0, 0, 0, 0);
        Due.row("by hour 18", all(x, 18, 3), 1, 1, 0, 1, 0);
    }

    private void last() {
        doc.says("2", "LAST of a THING: the HOUR of its own latest make, move, back, out, scan (as topmost, "
            + "or as it came out by a scan); "
            + "pack changes none.");
        PackTracer x = Due.traced("place a;place b;road a b 5;at 3 make 1 unit a;at 4 make 2 carton a;at 6 move 1 a;"
            + "at 7 sell 1;at 8 back 1 a;at 9 scan 1 a;"
            + "at 10 pack 1 2;at 11 scan 1 a;at 12 open 2;at 13 seal 2;at 14 out 1;at 15 pack 1 2;at 20 scan 1 b;at 21 free 1;"
                + "at 22 make 1 unit a;at 23 scan 1 a;");
        Due.verdicts(x, "LAST", 0, 0, 0, 0, 0, 0, 0, 0, 0, 0, 0, 0, 0, 12, 1, 10);
        Due.row("by hours, of the unit", new int[] {x.thing(1, 3, 7), x.thing(1, 6, 7), x.thing(1, 7, 7), x.thing(1, 8, 7),
            x.thing(1, 9, 7), x.thing(1, 10, 7),
            x.thing(1, 11, 7), x.thing(1, 13, 7), x.thing(1, 14, 7), x.thing(1, 15, 7), x.thing(1, 20, 7), x.thing(1, 23, 7)},
            3, 6, 6, 8, 9, 4, 11, 11, 14, 11, 20, 20);
        Due.row("by hours, of the carton", new int[] {x.thing(2, 4, 7), x.thing(2, 10, 7), x.thing(2, 11, 7),
            x.thing(2, 15, 7), x.thing(2, 23, 7)},
            4, 4, 11, 11, 11);
    }

    private void makeAndPack() {
        doc.says("2", "TAKEN: make: it is, at a PLACE, closed, empty.");
        PackTracer x = Due.traced("place a;place b;at 3 make 0 unit b;at 4 make 39 pallet a;at 5 make 20 carton b;");
        Due.row("ahead of it", new int[] {x.thing(0, 2, 0), x.thing(39, 3, 0), x.thing(20, 4, 0)}, -2, -2, -2);
        int[] made = {0, 39, 20};
        int[][] due = {{0, -5, 0, 1, 0, 0, -5, 3, 0, 0}, {2, -5, 39, 0, 0, 0, -5, 4, 0, 0}, {1, -5, 20, 1, 0, 0, -5, 5, 0, 0}};
        for (int t = 0; t < 3; t++) {
            for (int what = 0; what < 10; what++) {
                Due.is("thing(" + made[t] + ", 5, " + what + ")", x.thing(made[t], 5, what), due[t][what]);
            }
        }

        doc.says("2", "pack: the first is IN the second.");
        x = packed("");
        Due.row("in", all(x, 2, 1), 2, 3, -5, 2, -5);
        Due.row("open", all(x, 2, 4), 0, 0, 0, 0, 0);
        Due.row("all in it", all(x, 2, 9), 0, 2, 3, 0, 0);
    }

    private void outOpenSeal() {
        doc.says("2", "out: it is IN none, at the PLACE where it was; LAST is this HOUR; what it was in is OPEN.");
        PackTracer x = packed("at 7 move 3 b;at 9 out 1;at 10 out 2;", 0, 0, 0);
        Due.row("by hour 9, in", all(x, 9, 1), -5, 3, -5, 2, -5);
        Due.row("by hour 9, where", all(x, 9, 3), 1, 1, 1, 1, 0);
        Due.row("by hour 9, LAST", all(x, 9, 7), 9, 7, 7, 7, 0);
        Due.row("by hour 9, open", all(x, 9, 4), 0, 1, 0, 0, 0);
        Due.row("by hour 10, in", all(x, 10, 1), -5, -5, -5, 2, -5);
        Due.row("by hour 10, LAST", all(x, 10, 7), 9, 10, 7, 10, 0);
        Due.row("by hour 10, open", all(x, 10, 4), 0, 1, 1, 0, 0);

        doc.says("2", "open, seal: it is OPEN, isn't OPEN.");
        x = packed("at 3 open 2;at 4 open 3;at 5 seal 2;at 6 seal 3;", 0, 0, 0, 0);
        Due.row("by hour 3", all(x, 3, 4), 0, 1, 0, 0, 0);
        Due.row("by hour 4", all(x, 4, 4), 0, 1, 1, 0, 0);
        Due.row("by hour 5", all(x, 5, 4), 0, 0, 1, 0, 0);
        Due.row("by hour 6", all(x, 6, 4), 0, 0, 0, 0, 0);
    }

    private void moveSellBack() {
        doc.says("2", "move: it is at that PLACE, with all in it; LAST is this HOUR.");
        PackTracer x = packed("at 7 move 3 b;at 8 move 3 b;at 9 move 5 a;", 0, 0, 0);
        Due.row("by hour 7, where", all(x, 7, 3), 1, 1, 1, 1, 0);
        Due.row("by hour 7, LAST", all(x, 7, 7), 7, 7, 7, 7, 0);
        Due.row("by hour 9, LAST", all(x, 9, 7), 8, 8, 8, 8, 9);
        Due.row("in as before", all(x, 9, 1), 2, 3, -5, 2, -5);
        Due.row("nothing is seen", all(x, 9, 6), -5, -5, -5, -5, -5);

        doc.says("2", "sell: it is SOLD, with all in it.");
        x = packed("at 3 sell 3;at 4 back 3 c;at 5 out 1;at 6 sell 1;", 0, 0, 0, 0);
        Due.row("by hour 3", all(x, 3, 3), -3, -3, -3, -3, 0);
        Due.row("by hour 6", all(x, 6, 3), -3, 2, 2, 2, 0);
        Due.row("in as before", all(x, 3, 1), 2, 3, -5, 2, -5);
        Due.row("LAST as before", all(x, 3, 7), 0, 0, 0, 0, 0);

        doc.says("2", "back: it is at that PLACE, not SOLD; LAST is this HOUR.");
        Due.row("by hour 4, where no way leads", all(x, 4, 3), 2, 2, 2, 2, 0);
        Due.row("by hour 4, LAST", all(x, 4, 7), 4, 4, 4, 4, 0);
        x = packed("at 3 sell 3;at 3 back 3 b;at 3 sell 3;at 3 back 3 a;at 7 move 3 b;at 8 move 3 b;", 0, 0, 0, 0, 10, 0);
        Due.row("within one hour", all(x, 3, 3), 0, 0, 0, 0, 0);
    }

    private void endAndFree() {
        doc.says("2", "end: it, and all in it, are ENDED (for ever: IN none, QUARANTINED no more); what it was in is OPEN.");
        PackTracer x = packed("at 3 scan 1 c;at 3 scan 2 c;at 3 scan 3 c;at 4 end 2;at 5 make 2 carton a;at 5 free 1;", 10,
            10, 10, 0, 1, 3);
        Due.row("by hour 4", all(x, 4, 3), -4, -4, 0, -4, 0);
        Due.row("for ever", all(x, 999, 3), -4, -4, 0, -4, 0);
        Due.row("by hour 3, quarantined", all(x, 3, 5), 1, 1, 1, 0, 0);
        Due.row("quarantined, open, in it, all in it", new int[] {x.many(4, 3), x.thing(3, 4, 4), x.thing(3, 4, 8),
            x.thing(3, 4, 9)}, 1, 1, 0, 0);
        x = packed("at 3 end 1;", 0);
        Due.row("the unit alone", all(x, 3, 3), -4, 0, 0, 0, 0);
        Due.row("what it was in alone", all(x, 3, 4), -4, 1, 0, 0, 0);
        x = packed("at 3 end 3;", 0);
        Due.row("all of the pallet", all(x, 3, 3), -4, -4, -4, -4, 0);
        x = packed("at 3 end 5;", 0);
        Due.row("nothing around it", all(x, 3, 4), 0, 0, 0, 0, -4);
        // One in a sold one ends, and what it was in is open, as is seen when it is back.
        x = packed("at 3 sell 3;at 4 end 1;at 5 back 3 a;", 0, 0, 0);
        Due.row("in a sold one", all(x, 4, 3), -4, -3, -3, -3, 0);
        Due.row("in a sold one, open", all(x, 5, 4), -4, 1, 0, 0, 0);
        x = packed("at 3 sell 3;at 4 end 3;", 0, 0);
        Due.row("a sold one", all(x, 4, 3), -4, -4, -4, -4, 0);

        doc.says("2", "free: QUARANTINED no more.");
        x = packed("at 3 scan 1 c;at 3 scan 2 c;at 4 free 1;at 5 scan 1 c;at 6 free 2;at 7 free 1;", 10, 10, 0, 10, 0, 0);
        Due.row("by hour 3", all(x, 3, 5), 1, 1, 0, 0, 0);
        Due.row("by hour 4", all(x, 4, 5), 0, 1, 0, 0, 0);
        Due.row("by hour 5", all(x, 5, 5), 1, 1, 0, 0, 0);
        Due.row("by hour 6", all(x, 6, 5), 1, 0, 0, 0, 0);
        Due.row("by hour 7", all(x, 7, 5), 0, 0, 0, 0, 0);
        Due.row("where it was", all(x, 7, 3), 0, 0, 0, 0, 0);
    }

    private void scanWhereItIs() {
        doc.says("2", "scan: it is SEEN at this HOUR.");
        PackTracer x = packed("at 3 scan 1 a;at 3 scan 2 a;at 4 scan 1 a;at 9 scan 1 b;at 0 scan 5 a;", 0, 0, 0, 0, 0);
        Due.row("by hour 0", all(x, 0, 6), -5, -5, -5, -5, 0);
        Due.row("by hour 3", all(x, 3, 6), 3, 3, -5, -5, 0);
        Due.row("by hour 4", all(x, 4, 6), 4, 3, -5, -5, 0);
        Due.row("by hour 9", all(x, 9, 6), 9, 3, -5, -5, 0);

        doc.says("2", "At the PLACE where it is: LAST of what is topmost is this HOUR.");
        x = packed("at 3 open 2;at 3 open 3;at 4 scan 1 a;", 0, 0, 0);
        Due.row("LAST", all(x, 4, 7), 4, 4, 4, 4, 0);
        Due.row("in as before, however open", all(x, 4, 1), 2, 3, -5, 2, -5);
        x = packed("at 4 scan 1 a;at 5 out 2;at 9 scan 2 b;at 10 scan 2 b;", 0, 0, 10, 0);
        // The carton's own LAST is by its coming out, the pallet's by the scan.
        Due.row("LAST of its own", new int[] {x.thing(3, 999, 7), x.thing(2, 5, 7), x.thing(2, 999, 7)}, 4, 5, 10);
    }

    private void scanElsewhere() {
        doc.says("2", "Elsewhere: is one OPEN of those in which it is (from the inmost on the first), "
            + "what is in that one on the way to the THING "
            + "is out of it, at the PLACE of the scan (all in it with it), LAST is this HOUR;");
        PackTracer x = packed("at 3 open 3;at 9 scan 1 b;", 0, 0);
        Due.row("open pallet, in", all(x, 9, 1), 2, -5, -5, 2, -5);
        Due.row("open pallet, where", all(x, 9, 3), 1, 1, 0, 1, 0);
        Due.row("open pallet, LAST", all(x, 9, 7), 9, 9, 0, 9, 0);
        Due.row("open pallet, open", all(x, 9, 4), 0, 0, 1, 0, 0);
        x = packed("at 3 open 2;at 9 scan 1 b;", 0, 0);
        Due.row("open carton, in", all(x, 9, 1), -5, 3, -5, 2, -5);
        Due.row("open carton, where", all(x, 9, 3), 1, 0, 0, 0, 0);
        Due.row("open carton, LAST", all(x, 9, 7), 9, 0, 0, 0, 0);
        x = packed("at 3 open 2;at 3 open 3;at 9 scan 1 b;", 0, 0, 0);
        Due.row("both open: the inmost", all(x, 9, 1), -5, 3, -5, 2, -5);
        x = packed("at 3 open 2;at 3 open 3;at 9 scan 2 b;", 0, 0, 0);
        Due.row("itself open: what it is in", all(x, 9, 1), 2, -5, -5, 2, -5);

        doc.says("2", "else what is topmost is at that PLACE, with all in it (moved, though nobody said so), LAST is this HOUR.");
        x = packed("at 9 scan 1 b;at 3 open 5;at 9 scan 5 b;", 0, 0, 0);
        Due.row("sealed, in", all(x, 9, 1), 2, 3, -5, 2, -5);
        Due.row("sealed, where", all(x, 9, 3), 1, 1, 1, 1, 1);
        Due.row("sealed, LAST", all(x, 9, 7), 9, 9, 9, 9, 9);
        x = packed("at 3 open 2;at 9 scan 2 b;", 0, 0);
        Due.row("itself open counts for nothing", all(x, 9, 3), 1, 1, 1, 1, 0);
        x = packed("at 3 open 2;at 9 scan 3 b;", 0, 0);
        Due.row("what is in it counts for nothing", all(x, 9, 3), 1, 1, 1, 1, 0);

        doc.says("2", "Asked for SOON is what is topmost as it is ahead of the scan.");
        // The unit would be out of the open carton: it is the pallet that is asked, seen at hour 6.
        packed("at 3 open 2;at 6 scan 3 a;at 10 scan 1 b;at 11 scan 1 b;at 16 scan 1 a;", 0, 0, 10, 0, 0);
        packed("at 3 open 2;at 6 scan 1 a;at 10 scan 4 b;at 11 scan 4 b;at 11 scan 1 b;", 0, 0, 10, 0, 0);
    }

    private void scanRefused() {
        doc.says("2", "A scan REFUSED for 6 or 10: the THING is QUARANTINED (nothing else); one REFUSED for 3 isn't.");
        PackTracer x = packed("at 3 open 3;at 4 scan 1 b;at 4 scan 4 c;at 3 scan 5 c;", 0, 10, 10, 10);
        Due.row("for 10, quarantined", all(x, 4, 5), 1, 0, 0, 1, 1);
        Due.row("for 10, where", all(x, 4, 3), 0, 0, 0, 0, 0);
        Due.row("for 10, in", all(x, 4, 1), 2, 3, -5, 2, -5);
        Due.row("for 10, LAST", all(x, 4, 7), 0, 0, 0, 0, 0);
        Due.row("for 10, seen", all(x, 4, 6), -5, -5, -5, -5, -5);
        x = packed("at 3 sell 3;at 4 scan 2 a;at 5 scan 1 c;", 0, 6, 6);
        Due.row("for 6, quarantined", all(x, 5, 5), 1, 1, 0, 0, 0);
        Due.row("for 6, where", all(x, 5, 3), -3, -3, -3, -3, 0);
        Due.row("for 6, seen", all(x, 5, 6), -5, -5, -5, -5, -5);
        Due.row("for 6, LAST", all(x, 5, 7), 0, 0, 0, 0, 0);
        x = packed("at 3 end 1;at 4 scan 1 c;at 4 scan 1 a;", 0, 3, 3);
        Due.row("for 3", new int[] {x.many(4, 3), x.thing(1, 4, 5)}, 0, -4);
        x = packed("at 3 move 5 c;at 3 move 1 a;at 3 open 1;at 3 back 2 a;at 3 out 5;", 10, 9, 8, 6, 5);
        Due.is("other messages quarantine none", x.many(3, 3), 0);
    }

    private void message() {
        doc.says("Promise 7", "Of MESSAGE k, what 0 its HOUR, 1 which (0 make, 1 pack, 2 out, 3 open, 4 seal, 5 move, 6 scan, "
            + "7 sell, 8 back, 9 end, "
            + "10 free), 2 its first number, 3 its second one, or its PLACE (-2 without), 4 why it is REFUSED (0: TAKEN), "
            + "5 as the how-manieth it is looked at (from 0 on), 6 whether it is LATE (1, 0).");
        PackTracer x = Due.traced("place a;place b;at 999 make 0 pallet b;at 5 make 39 carton a;at 999 pack 39 0;at 0 out 39;"
            + "at 5 open 39;at 6 seal 39;"
            + "at 6 move 39 b;at 7 scan 39 b;at 7 sell 39;at 998 back 39 b;at 999 end 0;at 999 free 39;");
        int[][] due = {{999, 0, 0, 1, 0, 8, 0}, {5, 0, 39, 0, 0, 1, 1}, {999, 1, 39, 0, 7, 9, 0}, {0, 2, 39, -2, 2, 0, 1}, {5,
            3, 39, -2, 0, 2, 1},
            {6, 4, 39, -2, 0, 3, 1}, {6, 5, 39, 1, 10, 4, 1}, {7, 6, 39, 1, 10, 5, 1}, {7, 7, 39, -2, 11, 6, 1}, {998, 8, 39,
                1, 6, 7, 1},
            {999, 9, 0, -2, 0, 10, 0}, {999, 10, 39, -2, 0, 11, 0}};
        for (int k = 0; k < due.length; k++) {
            for (int what = 0; what < 7; what++) {
                Due.is("message(" + k + ", " + what + ")", Due.message(x, k, what), due[k][what]);
            }
        }

        doc.says("Promise 7", "IndexOutOfBoundsException: no such MESSAGE.");
        Due.span("message", 0, 11, Due.INDEX, k -> Due.message(x, k, 0));
        for (int k : new int[] {-1, 12, Due.LEAST, Due.GREATEST}) {
            Due.is("no such what, too", Due.message(x, k, 7), Due.INDEX);
        }
        Due.is("of a new object", Due.message(new PackTracer(), 0, 0), Due.INDEX);

        doc.says("Promise 7", "NoSuchElementException: no such what.");
        Due.span("message", 0, 6, Due.ELEMENT, what -> Due.message(x, 0, what));
        Due.is("the last message", Due.message(x, 11, 7), Due.ELEMENT);
    }
}
