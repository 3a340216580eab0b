/** "==== 2." of the document, its first half: for which reason a message is refused. */
final class RefusalEdges {
    private static final String LAND = "place a;place b;place c;road a b 5;";
    // Messages 0 to 4: a unit 1, a carton 2, a pallet 3, another unit 4 and another carton 5.
    private static final String FIVE = "at 0 make 1 unit a;at 0 make 2 carton a;at 0 make 3 pallet a;at 0 make 4 unit a;"
        + "at 0 make 5 carton a;";

    private final Sentences doc;

    RefusalEdges(Sentences doc) {
        this.doc = doc;
    }

    void run() {
        order();
        firstReason();
        made();
        ended();
        kinds();
        inOrNot();
        sold();
        room();
        openOrNot();
        topmostAlone();
        tooSoon();
        quarantined();
    }

    /** The lines on that land: the verdicts of their messages. */
    static PackTracer told(String lines, int... why) {
        PackTracer x = Due.traced(LAND + lines);
        Due.is("messages of " + lines, x.count(2), why.length);
        Due.verdicts(x, lines, why);
        return x;
    }

    /** Lines behind the five things: their own verdicts. */
    static PackTracer five(String lines, int... why) {
        PackTracer x = Due.traced(LAND + FIVE + lines);
        Due.is("messages of " + lines, x.count(2), why.length + 5);
        for (int k = 0; k < why.length; k++) {
            Due.is(lines + " message " + k + " of these", Due.message(x, k + 5, 4), why[k]);
        }
        return x;
    }

    private void order() {
        doc.says("2", "MESSAGES are looked at by HOURS, of like ones by numbers,");
        told("at 1 pack 1 2;at 0 make 2 carton a;at 0 make 1 unit a;", 0, 0, 0);
        told("at 0 pack 1 2;at 0 make 2 carton a;at 0 make 1 unit a;at 0 pack 1 2;", 2, 0, 0, 0);
        told("at 999 end 1;at 0 make 1 unit a;at 999 sell 1;at 998 sell 1;", 0, 0, 3, 0);
        PackTracer x = told("at 5 make 1 unit b;at 5 make 1 unit a;at 4 make 1 unit c;", 1, 1, 0);
        Due.is("the earliest made it", x.thing(1, 999, 3), 2);
    }

    private void firstReason() {
        doc.says("2", "each TAKEN, or REFUSED for the first reason of these that it has:");
        // 2 ahead of 3.
        five("at 1 end 2;at 2 pack 9 2;at 2 pack 2 9;", 0, 2, 2);
        // 3 ahead of 4, 5, 6, 7, 8, 10, 11, 12.
        five("at 1 end 2;at 2 pack 3 2;at 2 out 2;at 2 open 2;at 2 seal 2;at 2 move 2 c;at 2 scan 2 c;at 2 free 2;at 2 sell 2;"
            + "at 2 back 2 a;",
            0, 3, 3, 3, 3, 3, 3, 3, 3, 3);
        five("at 1 pack 1 2;at 1 end 5;at 2 pack 1 5;", 0, 0, 3);
        five("at 1 sell 1;at 1 end 5;at 2 pack 1 5;", 0, 0, 3);
        five("at 5 move 1 b;at 5 end 5;at 6 pack 1 5;", 0, 0, 3);
        five("at 1 scan 1 c;at 1 end 5;at 2 pack 1 5;", 10, 0, 3);
        five("at 1 sell 1;at 2 end 1;at 3 back 1 a;at 3 sell 1;at 3 scan 1 a;", 0, 0, 3, 3, 3);
        // 4 ahead of 5, 6, 7, 11.
        five("at 1 pack 1 2;at 2 pack 1 3;", 0, 4);
        five("at 1 sell 1;at 2 pack 1 3;at 2 pack 4 1;", 0, 4, 4);
        five("at 5 move 1 b;at 6 pack 1 3;", 0, 4);
        five("at 1 scan 1 c;at 2 pack 1 3;", 10, 4);
        // 5 ahead of 6, 7, 11.
        five("at 1 pack 1 2;at 2 sell 2;at 3 pack 1 5;at 3 out 2;", 0, 0, 5, 5);
        five("at 1 pack 1 2;at 5 move 2 b;at 6 pack 1 5;", 0, 0, 5);
        five("fits 1 1;at 1 pack 1 2;at 2 pack 1 2;", 0, 5);
        five("at 1 pack 1 2;at 2 scan 1 c;at 3 pack 1 5;", 0, 10, 5);
        // 6 ahead of 7, 8, 9, 10, 11.
        five("at 1 sell 2;at 5 move 1 b;at 6 pack 1 2;", 0, 0, 6);
        five("fits 1 1;at 1 pack 1 2;at 2 sell 2;at 3 pack 4 2;", 0, 0, 6);
        five("at 1 open 2;at 1 sell 2;at 1 sell 1;at 1 sell 5;at 2 open 2;at 2 open 1;at 2 seal 5;at 2 seal 1;", 0, 0, 0, 0,
            6, 6, 6, 6);
        five("at 1 pack 1 2;at 2 sell 2;at 3 move 1 a;at 3 sell 1;at 3 back 1 a;", 0, 0, 6, 6, 6);
        five("at 1 sell 1;at 2 move 1 c;at 2 move 1 b;at 2 scan 1 c;at 2 scan 1 b;", 0, 6, 6, 6, 6);
        five("at 1 sell 1;at 2 scan 1 a;at 3 sell 1;at 3 pack 1 2;", 0, 6, 6, 6);
        // 7 ahead of 11.
        five("at 1 scan 1 c;at 5 move 1 b;at 6 pack 1 2;", 10, 0, 7);
        five("fits 1 1;at 1 scan 1 c;at 1 pack 4 2;at 2 pack 1 2;", 10, 0, 7);
        // 9 ahead of 10, 11.
        five("at 1 pack 1 2;at 2 move 1 c;at 2 move 1 b;at 2 scan 1 c;at 3 sell 1;", 0, 9, 9, 10, 9);
    }

    private void made() {
        doc.says("2", "1 make: there was one of that number (also an ENDED one); it is QUARANTINED then (if it isn't ENDED).");
        PackTracer x = told("at 0 make 0 unit a;at 1 make 0 unit a;at 2 make 0 carton b;at 3 end 0;at 4 make 0 unit a;", 0, 1,
            1, 0, 1);
        Due.row("0 by hour 0, 1, 2", new int[] {x.thing(0, 0, 5), x.thing(0, 1, 5), x.thing(0, 2, 5)}, 0, 1, 1);
        Due.row("0 is as it was made", new int[] {x.thing(0, 2, 0), x.thing(0, 2, 3), x.thing(0, 2, 7)}, 0, 0, 0);
        Due.row("none is quarantined", new int[] {x.many(3, 3), x.many(4, 3), x.thing(0, 4, 0)}, 0, 0, -4);
        // One in another, or a sold one, is quarantined all the same, and it alone.
        x = five("at 1 pack 1 2;at 2 sell 2;at 3 make 1 unit a;at 3 make 39 pallet c;", 0, 0, 1, 0);
        Due.row("the unit alone", new int[] {x.thing(1, 3, 5), x.thing(2, 3, 5), x.many(3, 3)}, 1, 0, 1);
        Due.is("as it was by hour 2", x.many(2, 3), 0);

        doc.says("2", "2 no THING of a number (its first, its second) was made.");
        x = told("at 0 make 1 unit a;at 0 pack 1 2;at 0 pack 2 1;at 0 pack 0 39;at 0 out 0;at 0 open 0;at 0 seal 0;"
            + "at 0 move 0 a;at 0 scan 0 a;"
            + "at 0 sell 0;at 0 back 0 a;at 0 end 0;at 0 free 0;at 1 make 0 unit a;", 0, 2, 2, 2, 2, 2, 2, 2, 2, 2, 2, 2, 2, 0);
        Due.is("nothing but two units", x.many(1, 0), 2);
        Due.is("a scan of none quarantines none", x.many(1, 3), 0);
    }

    private void ended() {
        doc.says("2", "3 one of these is ENDED.");
        PackTracer x = five("at 1 end 1;at 2 pack 1 2;at 2 out 1;at 2 open 1;at 2 seal 1;at 2 move 1 a;at 2 scan 1 a;"
            + "at 2 sell 1;at 2 back 1 a;"
            + "at 2 end 1;at 2 free 1;", 0, 3, 3, 3, 3, 3, 3, 3, 3, 3, 3);
        Due.is("it alone", x.many(2, 2), 1);
        five("at 1 end 2;at 2 pack 1 2;at 2 pack 2 3;", 0, 3, 3);
        five("at 1 end 2;at 1 end 1;at 2 pack 1 2;", 0, 0, 3);
    }

    private void kinds() {
        doc.says("2", "4 pack: the second isn't of the next KIND (a unit into a carton, a carton onto a pallet).");
        String six = "at 0 make 0 unit a;at 0 make 1 unit a;at 0 make 10 carton a;at 0 make 11 carton a;at 0 make 20 pallet a;"
            + "at 0 make 21 pallet a;";
        int[][] due = {{4, 0, 4}, {4, 4, 0}, {4, 4, 4}};
        for (int first = 0; first < 3; first++) {
            for (int second = 0; second < 3; second++) {
                told(six + "at 1 pack " + 10 * first + " " + (10 * second + 1) + ";", 0, 0, 0, 0, 0, 0, due[first][second]);
            }
            told(six + "at 1 pack " + 10 * first + " " + 10 * first + ";", 0, 0, 0, 0, 0, 0, 4);
        }
    }

    private void inOrNot() {
        doc.says("2", "5 pack: the first is IN one; out: it isn't.");
        five("at 1 out 1;at 1 pack 1 2;at 1 pack 1 2;at 1 pack 1 5;at 1 out 1;at 1 out 1;at 1 pack 1 5;", 5, 0, 5, 5, 0, 5, 0);
        five("at 1 pack 2 3;at 1 pack 2 3;at 1 out 3;at 1 pack 1 2;at 1 out 2;at 1 out 2;at 1 out 1;", 0, 5, 5, 0, 0, 5, 0);
        // The second may be in one.
        five("at 1 pack 2 3;at 2 pack 1 2;", 0, 0);
    }

    private void sold() {
        doc.says("2", "6 pack, out, open, seal, move, scan, sell: what is topmost of it (of pack: of one of both) is SOLD; "
            + "back: it isn't topmost and SOLD.");
        String sold = "at 1 pack 1 2;at 1 pack 2 3;at 2 sell 3;";
        five(sold + "at 3 pack 4 2;at 3 pack 5 3;at 3 out 1;at 3 out 2;at 3 open 2;at 3 open 3;at 3 seal 3;at 3 move 3 a;"
            + "at 3 move 1 a;"
            + "at 3 scan 1 a;at 3 scan 2 a;at 3 scan 3 a;at 3 sell 1;at 3 sell 3;", 0, 0, 0, 6, 6, 6, 6, 6, 6, 6, 6, 6, 6, 6,
                6, 6, 6);
        five("at 1 sell 1;at 2 pack 1 2;at 3 sell 2;at 3 pack 4 2;", 0, 6, 0, 6);
        five(sold + "at 3 back 1 a;at 3 back 2 a;at 3 back 4 a;at 3 back 3 c;at 3 back 3 c;", 0, 0, 0, 6, 6, 6, 0, 6);
        five("at 1 pack 1 2;at 2 back 1 a;at 2 back 2 a;", 0, 6, 6);
        // make, end and free are not asked for it.
        five(sold + "at 3 make 1 unit a;at 3 free 1;at 3 end 1;at 3 end 3;", 0, 0, 0, 1, 0, 0, 0);
    }

    private void room() {
        doc.says("2", "7 pack: both aren't at one PLACE; the second holds as many as fit.");
        five("at 5 move 1 b;at 6 pack 1 2;at 11 move 1 a;at 11 pack 1 2;", 0, 7, 0, 0);
        // Where the second is: by what is topmost of it.
        five("at 1 pack 2 3;at 6 move 3 b;at 7 pack 1 2;at 7 move 4 b;at 7 pack 4 2;", 0, 0, 7, 0, 0);
        five("fits 1 2;at 1 pack 1 2;at 1 pack 4 2;at 1 pack 4 5;at 1 pack 2 3;at 1 pack 5 3;", 0, 7, 0, 0, 0);
        // Cartons alone take room on a pallet, not the units in them; and what is out makes room.
        five("fits 2 1;at 1 pack 1 2;at 1 pack 4 2;at 1 pack 2 3;at 1 pack 5 3;at 2 out 2;at 2 pack 5 3;", 0, 0, 0, 7, 0, 0);
        five("fits 1 1;at 1 pack 1 2;at 2 end 1;at 3 pack 4 2;", 0, 0, 0);
        // Sealed or open, there is room or not.
        five("fits 1 1;at 1 open 2;at 1 pack 1 2;at 1 pack 4 2;", 0, 0, 7);
    }

    private void openOrNot() {
        doc.says("2", "8 open: it is OPEN, or a unit; seal: it isn't OPEN.");
        five("at 1 open 1;at 1 seal 1;at 1 open 2;at 1 open 2;at 1 seal 2;at 1 seal 2;at 1 open 3;at 1 open 3;at 1 seal 3;"
            + "at 1 seal 3;",
            8, 8, 0, 8, 0, 8, 0, 8, 0, 8);
        // One that is in another, too; one that is open as something came out.
        five("at 1 pack 2 3;at 1 pack 1 2;at 2 open 2;at 2 open 2;at 2 seal 2;at 3 out 1;at 3 open 2;at 3 seal 2;", 0, 0, 0,
            8, 0, 0, 8, 0);
    }

    private void topmostAlone() {
        doc.says("2", "9 move, sell, back: it is IN one.");
        five("at 1 pack 1 2;at 1 pack 2 3;at 1 move 1 a;at 1 move 2 a;at 1 sell 1;at 1 sell 2;at 1 move 3 a;at 1 sell 3;"
            + "at 2 back 2 a;at 2 back 3 a;",
            0, 0, 9, 9, 9, 9, 0, 0, 6, 0);
        five("at 1 pack 1 2;at 2 out 1;at 2 move 1 a;at 2 sell 1;", 0, 0, 0, 0);
    }

    private void tooSoon() {
        doc.says("2", "10 move, scan: too SOON (never to the PLACE where it is).");
        told("at 0 make 1 unit a;at 4 move 1 b;at 5 move 1 b;at 9 move 1 a;at 10 move 1 a;", 0, 10, 0, 10, 0);
        told("at 0 make 1 unit a;at 4 scan 1 b;at 5 scan 1 b;at 9 scan 1 a;at 10 scan 1 a;", 0, 10, 0, 10, 0);
        told("at 7 make 1 unit a;at 7 move 1 a;at 7 scan 1 a;at 7 make 2 unit c;at 7 scan 2 c;at 7 move 2 c;", 0, 0, 0, 0, 0, 0);
        told("at 0 make 1 unit a;at 999 move 1 c;at 999 scan 1 c;", 0, 10, 10);

        doc.says("2", "SOON to a PLACE: what is topmost is elsewhere, "
            + "and from its LAST on there are fewer HOURS than the shortest way by roads "
            + "(or there is no way).");
        // Topmost is asked, not the unit: it was scanned later than the carton, ahead of being packed.
        five("at 3 scan 1 a;at 3 pack 1 2;at 4 scan 1 b;at 5 scan 1 b;", 0, 0, 10, 0);
        five("at 3 scan 2 a;at 3 pack 1 2;at 7 scan 1 b;at 8 scan 1 b;", 0, 0, 10, 0);
        // The shortest way, over another place.
        PackTracer x = Due.traced("place a;place b;place c;place d;road a b 2;road b c 3;road a c 6;at 0 make 1 unit a;"
            + "at 4 move 1 c;at 5 move 1 c;"
            + "at 99 move 1 d;at 99 scan 1 d;at 99 scan 1 c;");
        Due.verdicts(x, "by the shortest way", 0, 10, 0, 10, 10, 0);
    }

    private void quarantined() {
        doc.says("2", "11 pack (of its first), sell: it, or something in it, is QUARANTINED.");
        five("at 1 scan 1 c;at 2 pack 1 2;at 2 sell 1;at 3 free 1;at 4 pack 1 2;at 4 sell 2;", 10, 11, 11, 0, 0, 0);
        // The second, or what is in it, may be quarantined.
        five("at 1 scan 2 c;at 2 pack 1 2;at 3 free 2;at 4 scan 1 c;at 5 pack 4 2;", 10, 0, 0, 10, 0);
        // Something in it, at any depth; nothing around it.
        five("at 1 pack 1 2;at 2 scan 1 c;at 3 pack 2 3;at 3 sell 2;at 4 free 1;at 5 pack 2 3;at 6 scan 1 c;at 7 sell 3;"
            + "at 8 free 1;at 9 sell 3;",
            0, 10, 11, 11, 0, 0, 10, 11, 0, 0);
        five("at 1 pack 1 2;at 2 scan 2 c;at 3 out 1;at 4 sell 1;at 4 sell 2;", 0, 10, 0, 0, 11);
        // open, seal, move, scan, out, back, end are not asked for it.
        five("at 1 pack 1 2;at 1 scan 1 c;at 1 scan 2 c;at 2 open 2;at 2 seal 2;at 2 move 2 a;at 2 scan 2 a;at 2 out 1;"
            + "at 3 end 1;at 3 end 2;",
            0, 10, 10, 0, 0, 0, 0, 0, 0, 0);
        five("at 1 sell 1;at 2 scan 1 a;at 3 back 1 a;", 0, 6, 0);

        doc.says("2", "12 free: it isn't QUARANTINED.");
        five("at 1 free 1;at 2 scan 1 c;at 3 free 1;at 4 free 1;", 12, 10, 0, 12);
        // What is in it, or around it, does not count.
        five("at 1 pack 1 2;at 2 scan 1 c;at 3 free 2;at 4 free 1;at 5 scan 2 c;at 6 free 1;", 0, 10, 12, 0, 10, 12);
    }
}
