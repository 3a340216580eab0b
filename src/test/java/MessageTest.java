/** Part 2 of the document: for which reason a message is refused, what a taken one does. */
public final class MessageTest {
    private static final String LAND = "place a;place b;place c;road a b 5;";
    private static final String THREE = "at 0 make 1 unit a;at 0 make 2 carton a;at 0 make 3 pallet a;";

    public static void main(String[] args) {
        made();
        ended();
        kindsAndIn();
        sold();
        room();
        openAndSealed();
        topmostAlone();
        soon();
        quarantine();
        firstReason();
        places();
        scans();
        lastHours();
        orderOfComing();
        numberNought();
        Due.end();
    }

    /** A run: the land, the lines, and the verdicts of its messages. */
    private static PackTracer run(String lines, int... why) {
        PackTracer x = Due.traced(LAND + lines);
        Due.is("messages of " + lines, x.count(2), why.length);
        Due.verdicts(x, lines, why);
        return x;
    }

    private static void made() {
        PackTracer x = run("at 0 make 1 unit a;at 1 make 1 carton b;at 2 end 1;at 3 make 1 unit a;", 0, 1, 0, 1);
        Due.is("made twice: quarantined", x.thing(1, 1, 5), 1);
        Due.is("made twice: the first kind stays", x.thing(1, 1, 0), 0);
        Due.is("made twice: the first place stays", x.thing(1, 1, 3), 0);
        Due.is("ended: quarantined no more", x.many(999, 3), 0);
        run("at 0 make 1 unit a;at 0 pack 1 2;at 0 pack 2 1;at 0 out 2;at 0 free 2;at 0 end 2;at 0 scan 2 a;",
            0, 2, 2, 2, 2, 2, 2);
    }

    private static void ended() {
        PackTracer x = run(THREE + "at 1 pack 1 2;at 1 pack 2 3;at 2 end 2;"
            + "at 3 scan 1 c;at 3 free 2;at 3 end 1;at 3 pack 1 3;at 3 pack 3 2;at 3 pack 9 2;",
            0, 0, 0, 0, 0, 0, 3, 3, 3, 3, 3, 2);
        Due.is("a scan of an ended one quarantines none", x.many(999, 3), 0);
        Due.is("what it was in is open", x.thing(3, 999, 4), 1);
        Due.is("what it was in is empty", x.thing(3, 999, 8), 0);
        Due.is("all in it is ended", x.thing(1, 999, 3), -4);
        Due.is("ended ones", x.many(999, 2), 2);
        x = run(THREE + "at 1 pack 1 2;at 1 pack 2 3;at 2 end 1;", 0, 0, 0, 0, 0, 0);
        Due.is("around it alone is open", x.thing(2, 999, 4) * 10 + x.thing(3, 999, 4), 10);
        x = run(THREE + "at 1 pack 1 2;at 1 pack 2 3;at 2 end 3;", 0, 0, 0, 0, 0, 0);
        Due.is("a pallet ends with a unit in its carton", x.many(999, 2), 3);
        x = run(THREE + "at 1 pack 1 2;at 2 sell 2;at 3 end 1;at 4 end 2;", 0, 0, 0, 0, 0, 0, 0);
        Due.is("a sold one's unit can end", x.thing(1, 3, 3), -4);
        Due.is("a sold one stays sold", x.thing(2, 3, 3), -3);
        Due.is("ended goes over sold", x.thing(2, 4, 3), -4);
        Due.is("no sold ones", x.many(4, 1), 0);
    }

    private static void kindsAndIn() {
        run(THREE + "at 0 make 4 unit a;at 1 pack 1 4;at 1 pack 1 3;at 1 pack 2 1;at 1 pack 3 2;at 1 pack 2 2;"
            + "at 1 pack 3 3;at 1 pack 1 2;at 1 pack 1 2;at 1 out 2;at 1 out 1;at 2 out 1;at 3 pack 1 2;",
            0, 0, 0, 0, 4, 4, 4, 4, 4, 4, 0, 5, 5, 0, 5, 0);
        PackTracer x = run(THREE + "at 1 pack 1 2;at 2 pack 2 3;at 3 out 2;", 0, 0, 0, 0, 0, 0);
        Due.is("by 2: unit in carton", x.thing(1, 2, 1), 2);
        Due.is("by 2: topmost", x.thing(1, 2, 2), 3);
        Due.is("by 3: topmost", x.thing(1, 3, 2), 2);
        Due.is("by 3: the pallet is open", x.thing(3, 3, 4), 1);
        Due.is("by 3: the carton is not", x.thing(2, 3, 4), 0);
    }

    private static void sold() {
        run(THREE + "at 0 make 4 carton a;at 0 make 5 unit a;at 1 pack 1 2;at 2 sell 2;"
            + "at 3 pack 2 3;at 3 pack 5 2;at 3 out 1;at 3 open 2;at 3 seal 2;at 3 move 2 a;at 3 move 1 a;at 3 scan 1 a;"
            + "at 3 scan 2 a;at 3 sell 2;at 3 sell 1;at 3 back 1 a;at 3 back 4 a;at 4 back 2 c;at 5 back 2 c;at 5 out 1;",
            0, 0, 0, 0, 0, 0, 0, 6, 6, 6, 6, 6, 6, 6, 6, 6, 6, 6, 6, 6, 0, 6, 0);
        PackTracer x = run(THREE + "at 1 pack 1 2;at 2 sell 2;at 3 back 2 c;", 0, 0, 0, 0, 0, 0);
        Due.is("sold with all in it", x.thing(1, 2, 3), -3);
        Due.is("its topmost is told all the same", x.thing(1, 2, 2), 2);
        Due.is("back, where no way goes", x.thing(1, 3, 3), 2);
        Due.is("back: known from then on", x.thing(1, 3, 7), 3);
    }

    private static void room() {
        run("fits 2 1;" + THREE + "at 0 make 4 unit a;at 0 make 5 unit a;at 0 make 6 carton a;at 0 make 7 unit b;"
            + "at 1 pack 1 2;at 1 pack 4 2;at 1 pack 5 2;at 1 pack 2 3;at 1 pack 6 3;at 1 pack 7 6;at 2 out 1;at 3 pack 5 2;",
            0, 0, 0, 0, 0, 0, 0, 0, 0, 7, 0, 7, 7, 0, 0);
        // Both at one place by what is topmost: the carton went along with its pallet.
        run(THREE + "at 0 make 4 unit b;at 1 pack 2 3;at 5 move 3 b;at 6 pack 1 2;at 6 pack 4 2;", 0, 0, 0, 0, 0, 0, 7, 0);
    }

    private static void openAndSealed() {
        PackTracer x = run(THREE + "at 1 open 1;at 1 seal 1;at 1 seal 2;at 1 open 2;at 2 open 2;at 3 seal 2;at 4 seal 2;"
            + "at 5 open 3;at 6 pack 2 3;", 0, 0, 0, 8, 8, 8, 0, 8, 0, 8, 0, 0);
        Due.is("by 0: closed as made", x.thing(2, 0, 4), 0);
        Due.is("by 1: open", x.thing(2, 1, 4), 1);
        Due.is("by 3: sealed", x.thing(2, 3, 4), 0);
        Due.is("packing leaves it open", x.thing(3, 6, 4), 1);
        x = run(THREE + "at 1 pack 1 2;at 2 out 1;at 3 pack 1 2;at 4 seal 2;at 5 pack 2 3;at 6 open 2;",
            0, 0, 0, 0, 0, 0, 0, 0, 0);
        Due.is("open inside a pallet", x.thing(2, 6, 4), 1);
    }

    private static void topmostAlone() {
        run(THREE + "at 1 pack 1 2;at 1 pack 2 3;at 9 move 1 b;at 9 move 2 a;at 9 sell 1;at 9 sell 2;at 9 move 3 b;at 9 sell 3;",
            0, 0, 0, 0, 0, 9, 9, 9, 9, 0, 0);
    }

    private static void soon() {
        run("at 0 make 1 unit a;at 4 move 1 b;at 5 move 1 b;at 9 move 1 a;at 9 move 1 b;at 13 move 1 a;at 14 move 1 a;"
            + "at 99 move 1 c;", 0, 10, 0, 10, 0, 10, 0, 10);
        PackTracer x = run("at 0 make 1 unit a;at 4 scan 1 b;at 5 scan 1 b;", 0, 10, 0);
        Due.is("by 4: quarantined", x.thing(1, 4, 5), 1);
        Due.is("by 4: nothing else, not seen", x.thing(1, 4, 6), -5);
        Due.is("by 4: nothing else, not moved", x.thing(1, 4, 3), 0);
        Due.is("by 4: nothing else, known as before", x.thing(1, 4, 7), 0);
        Due.is("by 5: seen", x.thing(1, 5, 6), 5);
        Due.is("by 5: quarantined still", x.thing(1, 5, 5), 1);
        x = run("at 0 make 1 unit a;at 1 move 1 b;at 2 move 1 c;", 0, 10, 10);
        Due.is("a move that is too soon quarantines none", x.thing(1, 2, 5), 0);
        // A scan tells of the place where it is: LAST goes on.
        run("at 0 make 1 unit a;at 3 scan 1 a;at 7 scan 1 b;at 8 scan 1 b;", 0, 0, 10, 0);
        // Asked is what is topmost as it is ahead of the scan, even if the unit then comes out of an open one.
        run(THREE + "at 1 pack 1 2;at 1 open 2;at 3 scan 2 a;at 7 scan 1 b;at 8 scan 1 b;", 0, 0, 0, 0, 0, 0, 10, 0);
    }

    private static void quarantine() {
        PackTracer x = run(THREE + "at 0 make 4 carton a;at 1 pack 1 2;at 2 scan 1 c;at 3 pack 2 3;at 3 sell 2;"
            + "at 4 free 2;at 4 free 1;at 5 free 1;at 6 pack 2 3;at 7 scan 3 c;at 8 sell 3;at 9 out 2;at 10 sell 2;",
            0, 0, 0, 0, 0, 10, 11, 11, 12, 0, 12, 0, 10, 11, 0, 0);
        Due.is("by 2: the scanned one alone", x.thing(1, 2, 5) * 10 + x.thing(2, 2, 5), 10);
        Due.is("by 7: the pallet", x.many(7, 3), 1);
        // The second of pack may be quarantined; open, out, move and scan go on.
        run(THREE + "at 1 scan 2 c;at 2 pack 1 2;at 3 open 2;at 4 seal 2;at 5 move 2 b;at 6 scan 2 b;at 7 out 1;at 8 sell 2;"
            + "at 9 end 2;at 9 free 2;", 0, 0, 0, 10, 0, 0, 0, 0, 0, 0, 11, 0, 3);
        // At any depth.
        run(THREE + "at 0 scan 1 c;at 1 pack 1 2;at 2 pack 2 3;at 3 free 1;at 4 pack 1 2;at 5 scan 1 c;at 6 pack 2 3;at 7 sell 3;",
            0, 0, 0, 10, 11, 0, 0, 0, 10, 5, 11);
        x = run("at 0 make 1 unit a;at 1 sell 1;at 2 scan 1 a;", 0, 0, 6);
        Due.is("scanned while sold", x.thing(1, 2, 5), 1);
    }

    /** A message that has several reasons is refused for the first of them. */
    private static void firstReason() {
        // 4 ahead of 5, 5 ahead of 6, 6 ahead of 7, 7 ahead of 11.
        run(THREE + "at 1 pack 1 2;at 2 pack 1 3;at 3 sell 2;at 3 pack 1 2;at 3 out 2;", 0, 0, 0, 0, 4, 0, 5, 5);
        run(THREE + "at 0 make 4 unit b;at 1 sell 2;at 2 pack 4 2;", 0, 0, 0, 0, 0, 6);
        run(THREE + "at 0 make 4 unit b;at 1 scan 4 c;at 2 pack 4 2;", 0, 0, 0, 0, 10, 7);
        // 6 ahead of 8, 9, 10, 11; 9 ahead of 10 and 11.
        run(THREE + "at 1 pack 1 2;at 2 sell 2;at 3 open 1;at 3 seal 2;at 3 move 1 c;at 3 sell 1;at 3 scan 1 c;at 4 sell 1;",
            0, 0, 0, 0, 0, 6, 6, 6, 6, 6, 6);
        run(THREE + "at 1 pack 1 2;at 2 scan 1 c;at 3 move 1 c;at 3 sell 1;at 3 back 1 a;", 0, 0, 0, 0, 10, 9, 9, 6);
    }

    private static void places() {
        PackTracer x = run(THREE + "at 1 pack 1 2;at 2 pack 2 3;at 7 move 3 b;at 8 out 2;at 13 move 3 a;at 14 out 1;",
            0, 0, 0, 0, 0, 0, 0, 0, 0);
        Due.is("by 7: all went along", x.thing(1, 7, 3), 1);
        Due.is("by 8: out at the place where it was", x.thing(2, 8, 3), 1);
        Due.is("by 13: the carton stays", x.thing(2, 13, 3), 1);
        Due.is("by 13: the unit with it", x.thing(1, 13, 3), 1);
        Due.is("by 13: the pallet is gone", x.thing(3, 13, 3), 0);
        Due.is("by 14: the unit is out", x.thing(1, 14, 1), -5);
        Due.is("by 14: the carton is open", x.thing(2, 14, 4), 1);
    }

    private static void scans() {
        String packed = THREE + "at 0 make 4 unit a;at 1 pack 1 2;at 1 pack 4 2;at 1 pack 2 3;";
        PackTracer x = run(packed + "at 9 scan 1 b;", 0, 0, 0, 0, 0, 0, 0, 0);
        Due.is("all sealed: the pallet moved", x.thing(3, 9, 3), 1);
        Due.is("all sealed: the other unit, too", x.thing(4, 9, 3), 1);
        Due.is("all sealed: in as before", x.thing(1, 9, 1), 2);
        Due.is("all sealed: known", x.thing(4, 9, 7), 9);
        Due.is("only the scanned one is seen", x.thing(1, 9, 6) * 10000 + x.thing(3, 9, 6), 9 * 10000 - 5);
        x = run(packed + "at 2 open 3;at 9 scan 1 b;", 0, 0, 0, 0, 0, 0, 0, 0, 0);
        Due.is("open pallet: the carton is out", x.thing(2, 9, 1), -5);
        Due.is("open pallet: the carton is there", x.thing(2, 9, 3), 1);
        Due.is("open pallet: all in it with it", x.thing(4, 9, 3), 1);
        Due.is("open pallet: the unit is in its carton", x.thing(1, 9, 1), 2);
        Due.is("open pallet: the pallet stays", x.thing(3, 9, 3), 0);
        Due.is("open pallet: its LAST stays", x.thing(3, 9, 7), 0);
        Due.is("open pallet: the carton's LAST", x.thing(2, 9, 7), 9);
        x = run(packed + "at 2 open 2;at 9 scan 1 b;", 0, 0, 0, 0, 0, 0, 0, 0, 0);
        Due.is("open carton: the unit is out", x.thing(1, 9, 2), 1);
        Due.is("open carton: the carton is in the pallet", x.thing(2, 9, 1), 3);
        Due.is("open carton: the other unit stays", x.thing(4, 9, 3), 0);
        x = run(packed + "at 2 open 2;at 2 open 3;at 9 scan 1 b;", 0, 0, 0, 0, 0, 0, 0, 0, 0, 0);
        Due.is("both open: out of the inmost", x.thing(2, 9, 1), 3);
        x = run(packed + "at 2 open 2;at 9 scan 2 b;", 0, 0, 0, 0, 0, 0, 0, 0, 0);
        Due.is("open itself counts for nothing", x.thing(3, 9, 3), 1);
        x = run(packed + "at 2 open 2;at 9 scan 1 a;", 0, 0, 0, 0, 0, 0, 0, 0, 0);
        Due.is("where it is: nothing comes out", x.thing(1, 9, 1), 2);
        Due.is("where it is: LAST of the topmost", x.thing(3, 9, 7), 9);
        Due.is("where it is: seen", x.thing(1, 9, 6), 9);
    }

    private static void lastHours() {
        PackTracer x = run(THREE + "at 3 scan 1 a;at 4 pack 1 2;at 6 scan 1 a;at 8 pack 2 3;at 20 move 3 b;at 30 out 2;at 31 out 1;",
            0, 0, 0, 0, 0, 0, 0, 0, 0, 0);
        Due.is("by 4: the carton's own", x.thing(1, 4, 7), 0);
        Due.is("by 6: scanned within it", x.thing(1, 6, 7), 6);
        Due.is("by 8: the pallet's own", x.thing(2, 8, 7), 0);
        Due.is("by 20", x.thing(1, 20, 7), 20);
        Due.is("by 30", x.thing(1, 30, 7), 30);
        Due.is("by 30: the pallet", x.thing(3, 30, 7), 20);
        Due.is("by 31", x.thing(1, 31, 7), 31);
        x = run("at 0 make 1 unit a;at 7 move 1 a;at 8 sell 1;", 0, 0, 0);
        Due.is("a move to where it is", x.thing(1, 7, 7), 7);
        Due.is("sell changes none", x.thing(1, 8, 7), 7);
    }

    /** Thing 0 is one like others, as what others are in, too. */
    private static void numberNought() {
        PackTracer x = run("at 0 make 1 unit a;at 0 make 2 carton a;at 0 make 0 pallet a;at 1 pack 1 2;at 1 pack 2 0;"
            + "at 2 pack 2 0;at 2 move 2 b;at 2 sell 2;at 3 open 0;at 9 scan 1 b;at 10 out 2;", 0, 0, 0, 0, 0, 5, 9, 9, 0, 0, 5);
        Due.is("in 0", x.thing(2, 3, 1), 0);
        Due.is("topmost 0", x.thing(1, 3, 2), 0);
        Due.is("all in 0", x.thing(0, 3, 9), 2);
        Due.is("0 and one in an open one", x.components(0, 3), 2);
        Due.is("0 sealed", x.components(0, 2), 1);
        Due.is("0 is left", x.thing(0, 9, 3) * 10 + x.thing(2, 9, 3), 1);
        Due.is("in none", x.many(2, 4) * 10 + x.many(9, 4), 12);
        x = run("at 0 make 1 unit a;at 0 make 0 carton a;at 1 pack 1 0;at 2 sell 0;at 3 back 1 a;at 4 back 0 a;at 5 out 1;at 6 pack 1 0;"
            + "at 7 seal 0;at 8 end 1;", 0, 0, 0, 0, 6, 0, 0, 0, 0, 0);
        Due.is("0 is open behind out", x.thing(0, 5, 4), 1);
        Due.is("0 is sealed", x.thing(0, 7, 4), 0);
        Due.is("0 is open behind end", x.thing(0, 8, 4), 1);
    }

    private static void orderOfComing() {
        PackTracer one = run("at 1 pack 1 2;at 0 make 2 carton a;at 0 make 1 unit a;at 6 scan 1 b;", 0, 0, 0, 0);
        Due.is("by hours, not as they came", one.thing(1, 999, 1), 2);
        // Like hours: by numbers.
        run("at 0 pack 1 2;at 0 make 2 carton a;at 0 make 1 unit a;at 0 pack 1 2;", 2, 0, 0, 0);
    }
}
