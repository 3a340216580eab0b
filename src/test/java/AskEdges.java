import java.util.List;

/** Promises 8 to 18, and what "==== 3." and "==== 4." say of their answers: what is by an hour, as known, without, to blame. */
final class AskEdges {
    private final Sentences doc;
    private final PackTracer house = House.told();

    AskEdges(Sentences doc) {
        this.doc = doc;
    }

    void run() {
        byHour();
        thing();
        inside();
        there();
        many();
        trail();
        known();
        late();
        changed();
        without();
        refused();
        blamed();
        twoBlamed();
        severalAnswers();
    }

    private void byHour() {
        doc.says("3", "BY HOUR h: all MESSAGES of HOURS up to h are looked at (h 999: all).");
        PackTracer x = Due.traced("place a;at 999 end 1;at 5 make 1 unit a;at 0 make 2 unit a;at 998 sell 1;"
            + "at 5 make 3 carton a;at 5 pack 1 3;");
        Due.row("unit 1", new int[] {x.thing(1, 0, 3), x.thing(1, 4, 3), x.thing(1, 5, 3), x.thing(1, 5, 1),
            x.thing(1, 998, 3), x.thing(1, 999, 3)},
            -2, -2, 0, 3, 0, -4);
        Due.row("made", new int[] {x.many(0, 0), x.many(4, 0), x.many(5, 0), x.many(999, 0)}, 1, 1, 3, 3);

        doc.says("3", "KNOWN of a THING BY HOUR h: LAST of what is topmost of it.");
        Due.row("unit 1", new int[] {house.thing(1, 6, 7), house.thing(1, 7, 7), house.thing(1, 8, 7), house.thing(1, 9, 7),
            house.thing(1, 12, 7),
            house.thing(1, 29, 7), house.thing(1, 30, 7)}, 0, 7, 7, 9, 12, 12, 30);
        Due.row("pallet 20", new int[] {house.thing(20, 9, 7), house.thing(20, 24, 7), house.thing(20, 25, 7)}, 7, 7, 25);
    }

    private static int[] of(PackTracer x, int n, int h) {
        int[] all = new int[10];
        for (int what = 0; what < 10; what++) {
            all[what] = x.thing(n, h, what);
        }
        return all;
    }

    private void thing() {
        doc.says("Promise 8", "Of a THING BY HOUR h (0 .. 999), what 0 its KIND (0 unit, 1 carton, 2 pallet), "
            + "1 what it is IN (-5: none), "
            + "2 what is topmost of it, 3 its PLACE, 4 OPEN (1, 0), 5 QUARANTINED (1, 0), "
                + "6 the HOUR at which it was SEEN last (-5: never), 7 KNOWN, "
            + "8 how many are in it at once, 9 all in it.");
        Due.row("thing(1, 0)", of(house, 1, 0), 0, -5, 1, 0, 0, 0, -5, 0, 0, 0);
        Due.row("thing(1, 2)", of(house, 1, 2), 0, 10, 20, 0, 0, 0, -5, 0, 0, 0);
        Due.row("thing(10, 2)", of(house, 10, 2), 1, 20, 20, 0, 0, 0, -5, 0, 2, 2);
        Due.row("thing(20, 2)", of(house, 20, 2), 2, -5, 20, 0, 0, 0, -5, 0, 1, 3);
        Due.row("thing(2, 8)", of(house, 2, 8), 0, 10, 20, 1, 0, 1, -5, 7, 0, 0);
        Due.row("thing(20, 9)", of(house, 20, 9), 2, -5, 20, 1, 1, 0, -5, 7, 0, 0);
        Due.row("thing(1, 12)", of(house, 1, 12), 0, 10, 10, 2, 0, 0, 12, 12, 0, 0);
        Due.row("thing(10, 20)", of(house, 10, 20), 1, -5, 10, 2, 1, 0, -5, 12, 1, 1);
        Due.row("thing(1, 999)", of(house, 1, 999), 0, -5, 1, 1, 0, 0, 30, 30, 0, 0);
        PackTracer x = Due.traced("place a;at 0 make 0 carton a;at 0 scan 0 a;at 0 make 39 unit a;at 0 pack 39 0;");
        Due.row("thing(0, 0): hours and numbers of 0", of(x, 0, 0), 1, -5, 0, 0, 0, 0, 0, 0, 1, 1);
        Due.row("thing(39, 0)", of(x, 39, 0), 0, 0, 0, 0, 0, 0, -5, 0, 0, 0);

        doc.says("Promise 8", "-3: it is SOLD (of 3 alone);");
        Due.row("thing(20, 10)", of(house, 20, 10), 2, -5, 20, -3, 1, 0, -5, 7, 0, 0);
        x = Due.traced("place a;at 0 make 1 unit a;at 0 make 2 carton a;at 1 pack 1 2;at 2 scan 1 a;at 3 sell 2;");
        Due.row("in a sold one", of(x, 1, 3), 0, 2, 2, -3, 0, 0, 2, 2, 0, 0);
        Due.row("a sold one with something in it", of(x, 2, 3), 1, -5, 2, -3, 0, 0, -5, 2, 1, 1);

        doc.says("Promise 8", "-4: it is ENDED (of all);");
        Due.row("thing(2, 20)", of(house, 2, 20), -4, -4, -4, -4, -4, -4, -4, -4, -4, -4);
        x = Due.traced("place a;at 0 make 1 unit a;at 1 sell 1;at 2 end 1;");
        Due.row("sold, then ended", of(x, 1, 2), -4, -4, -4, -4, -4, -4, -4, -4, -4, -4);

        doc.says("Promise 8", "-2: none such was made;");
        Due.row("thing(5, 27)", of(house, 5, 27), -2, -2, -2, -2, -2, -2, -2, -2, -2, -2);
        Due.row("thing(39, 999)", of(house, 39, 999), -2, -2, -2, -2, -2, -2, -2, -2, -2, -2);
        Due.row("of a new object", of(new PackTracer(), 0, 0), -2, -2, -2, -2, -2, -2, -2, -2, -2, -2);

        doc.says("Promise 8", "NONE: no such number, h, what.");
        Due.span("number", 0, 39, -1, n -> house.thing(n, 0, 0));
        Due.span("h", 0, 999, -1, h -> house.thing(1, h, 0));
        Due.span("what", 0, 9, -1, what -> house.thing(1, 0, what));
    }

    private void inside() {
        doc.says("Promise 9", "The i-th (from 0 on, by numbers) of all that are in a THING BY HOUR h;");
        Due.list("inside(20, 2)", i -> house.inside(20, 2, i), 1, 2, 10);
        Due.list("inside(10, 999)", i -> house.inside(10, 29, i), 1);
        // By numbers, not as they were packed, nor by depth.
        PackTracer x = Due.traced("place a;at 0 make 0 unit a;at 0 make 38 unit a;at 0 make 39 carton a;at 0 make 20 pallet a;"
            + "at 1 pack 39 20;at 2 pack 38 39;at 3 pack 0 39;");
        Due.list("inside(20, 3)", i -> x.inside(20, 3, i), 0, 38, 39);
        Due.list("inside(39, 2)", i -> x.inside(39, 2, i), 38);

        doc.says("Promise 9", "-2: there are not so many, none such was made, it is ENDED;");
        Due.list("of an empty one", i -> house.inside(10, 0, i));
        Due.list("of a unit", i -> house.inside(1, 999, i));
        Due.list("of none", i -> house.inside(5, 27, i));
        Due.list("of an ended one", i -> house.inside(2, 20, i));
        PackTracer y = Due.traced("place a;at 0 make 1 unit a;at 0 make 2 carton a;at 1 pack 1 2;at 2 end 2;");
        Due.list("of one that ended with something in it", i -> y.inside(2, 2, i));
        Due.list("ahead of that", i -> y.inside(2, 1, i), 1);

        doc.says("Promise 9", "NONE: no such ones.");
        Due.span("number", 0, 39, -1, n -> house.inside(n, 2, 0));
        Due.span("h", 0, 999, -1, h -> house.inside(20, h, 0));
    }

    private void there() {
        doc.says("Promise 10", "The i-th (from 0 on, by numbers) of all THINGS at a PLACE BY HOUR h (place -3: SOLD ones, -4: "
            + "ENDED ones);");
        Due.list("there(0, 0)", i -> house.there(0, 0, i), 1, 2, 10, 20);
        Due.list("there(1, 9)", i -> house.there(1, 9, i), 1, 2, 10, 20);
        Due.list("there(1, 10)", i -> house.there(1, 10, i), 1, 2, 10);
        Due.list("there(-3, 10)", i -> house.there(-3, 10, i), 20);
        Due.list("there(-4, 20)", i -> house.there(-4, 20, i), 2);
        Due.list("there(3, 999)", i -> house.there(3, 999, i), 5, 20);
        PackTracer x = Due.traced("place a;at 0 make 39 unit a;at 0 make 0 carton a;at 0 make 7 unit a;at 1 pack 39 0;"
            + "at 2 sell 0;at 3 end 39;at 4 end 7;at 5 end 0;");
        Due.list("sold with all in it", i -> x.there(-3, 2, i), 0, 39);
        Due.list("ended in a sold one", i -> x.there(-4, 3, i), 39);
        Due.list("sold still", i -> x.there(-3, 4, i), 0);
        Due.list("ended, not sold", i -> x.there(-4, 5, i), 0, 7, 39);
        Due.list("sold no more", i -> x.there(-3, 5, i));

        doc.says("Promise 10", "-2: there are not so many;");
        Due.list("there(2, 11)", i -> house.there(2, 11, i));
        Due.list("there(-3, 9)", i -> house.there(-3, 9, i));
        Due.list("there(-4, 19)", i -> house.there(-4, 19, i));
        PackTracer empty = new PackTracer();
        Due.list("sold, of a new object", i -> empty.there(-3, 0, i));
        Due.list("ended, of a new object", i -> empty.there(-4, 999, i));

        doc.says("Promise 10", "NONE: no such ones.");
        Due.span("place", 0, 3, -1, p -> house.there(p == -3 || p == -4 ? -1 : p, 0, 0));
        Due.row("other places", new int[] {house.there(-1, 0, 0), house.there(-2, 0, 0), house.there(-5, 0, 0),
            house.there(7, 0, 0), empty.there(0, 0, 0)},
            -1, -1, -1, -1, -1);
        Due.span("h", 0, 999, -1, h -> house.there(0, h, 0));
        Due.span("h of sold ones", 0, 999, -1, h -> house.there(-3, h, 0));
    }

    private static int[] manyBy(PackTracer x, int h) {
        int[] all = new int[6];
        for (int what = 0; what < 6; what++) {
            all[what] = x.many(h, what);
        }
        return all;
    }

    private void many() {
        doc.says("Promise 11", "How many THINGS BY HOUR h are so, what 0 made, 1 SOLD, 2 ENDED, 3 QUARANTINED, "
            + "4 IN none (not ENDED), 5 OPEN;");
        Due.row("by 0", manyBy(house, 0), 4, 0, 0, 0, 4, 0);
        Due.row("by 2", manyBy(house, 2), 4, 0, 0, 0, 1, 0);
        Due.row("by 8", manyBy(house, 8), 4, 0, 0, 1, 1, 0);
        Due.row("by 10", manyBy(house, 10), 4, 1, 0, 1, 2, 1);
        Due.row("by 20", manyBy(house, 20), 4, 1, 1, 0, 2, 2);
        Due.row("by 999", manyBy(house, 999), 5, 0, 1, 0, 4, 2);
        PackTracer x = Due.traced("place a;at 0 make 1 unit a;at 0 make 2 carton a;at 0 make 3 pallet a;at 1 pack 1 2;"
            + "at 1 pack 2 3;at 2 sell 3;at 3 end 2;at 4 end 3;");
        Due.row("sold with all in it", manyBy(x, 2), 3, 3, 0, 0, 1, 0);
        Due.row("two ended in a sold one", manyBy(x, 3), 3, 1, 2, 0, 1, 1);
        // The document takes their being in one and in quarantine from ended ones, not that they are open.
        Due.row("all ended", manyBy(x, 4), 3, 0, 3, 0, 0, 1);
        Due.row("of a new object", manyBy(new PackTracer(), 0), 0, 0, 0, 0, 0, 0);
        StringBuilder forty = new StringBuilder("place a;");
        for (int n = 0; n < 40; n++) {
            forty.append("at 0 make ").append(n).append(" unit a;");
        }
        Due.row("forty", manyBy(Due.traced(forty.toString()), 0), 40, 0, 0, 0, 40, 0);

        doc.says("Promise 11", "NONE: no such ones.");
        Due.span("h", 0, 999, -1, h -> house.many(h, 0));
        Due.span("what", 0, 5, -1, what -> house.many(0, what));
    }

    private static void trailIs(PackTracer x, int n, int... due) {
        for (int i = 0; i < due.length / 2; i++) {
            Due.is("trail(" + n + ", " + i + ", 0)", x.trail(n, i, 0), due[2 * i]);
            Due.is("trail(" + n + ", " + i + ", 1)", x.trail(n, i, 1), due[2 * i + 1]);
        }
        for (int i : new int[] {due.length / 2, due.length / 2 + 1, 60, Due.GREATEST}) {
            Due.is("trail(" + n + ", " + i + ", 0)", x.trail(n, i, 0), -2);
            Due.is("trail(" + n + ", " + i + ", 1)", x.trail(n, i, 1), -2);
        }
    }

    private void trail() {
        doc.says("3", "TRAIL of a THING: each PLACE at which it is (behind a MESSAGE, by their order;"
            + " SOLD counts as -3, ENDED as -4), "
            + "told as it is another one than ahead (at first: as it is made), with the HOUR.");
        trailIs(house, 1, 0, 0, 1, 7, 2, 12, 1, 30);
        trailIs(house, 2, 0, 0, 1, 7, 2, 12, -4, 20);
        trailIs(house, 20, 0, 0, 1, 7, -3, 10, 3, 25);
        trailIs(house, 5, 3, 28);
        // Within one hour each place is told; a message that leaves it there tells nothing.
        PackTracer x = Due.traced("place a;place b;at 3 make 1 unit a;at 3 sell 1;at 3 back 1 b;at 3 sell 1;at 3 back 1 b;"
            + "at 4 move 1 b;at 5 scan 1 b;at 6 sell 1;at 7 end 1;"
            + "at 8 end 1;at 2 make 2 unit b;");
        trailIs(x, 1, 0, 3, -3, 3, 1, 3, -3, 3, 1, 3, -3, 6, -4, 7);
        trailIs(x, 2, 1, 2);

        doc.says("Promise 12", "The i-th of the TRAIL of a THING, what 0 the PLACE (-3, -4), 1 the HOUR;");
        trailIs(house, 10, 0, 0, 1, 7, 2, 12);

        doc.says("Promise 12", "-2: it has not so many (none such was made);");
        trailIs(house, 0);
        trailIs(house, 39);
        trailIs(new PackTracer(), 0);

        doc.says("Promise 12", "-10: no such ones.");
        Due.span("number", 0, 39, -10, n -> house.trail(n, 0, 0));
        Due.span("what", 0, 1, -10, what -> house.trail(1, 0, what));
        Due.row("i below 0", new int[] {house.trail(1, -1, 0), house.trail(1, -1, 1), house.trail(1, Due.LEAST, 0),
            house.trail(0, -1, 0)}, -10, -10, -10, -10);
        Due.is("none made, no such what", house.trail(0, 0, 2), -10);
    }

    private void known() {
        doc.says("3", "AS KNOWN by k: of the first k MESSAGES alone.");
        PackTracer x = Due.traced("place a;place b;at 9 sell 1;at 5 make 1 unit a;at 7 sell 1;at 8 back 1 b;at 6 end 1;");
        Due.row("by 0 to 5", new int[] {x.known(0, 1), x.known(1, 1), x.known(2, 1), x.known(3, 1), x.known(4, 1),
            x.known(5, 1)}, -2, -2, -3, -3, -3, -4);
        x = Due.traced("place a;place b;at 5 make 1 unit a;at 7 back 1 b;at 6 sell 1;");
        Due.row("looked at by hours", new int[] {x.known(1, 1), x.known(2, 1), x.known(3, 1)}, 0, 0, 1);

        doc.says("Promise 13", "AS KNOWN by k (0 .. how many MESSAGES there are): the PLACE of a THING behind all of these;");
        Due.row("of 1", new int[] {house.known(0, 1), house.known(1, 1), house.known(7, 1), house.known(8, 1),
            house.known(11, 1), house.known(12, 1), house.known(14, 1),
            house.known(15, 1), house.known(17, 1)}, -2, 0, 0, 1, 1, 2, 2, 1, 1);

        doc.says("Promise 13", "-2: none such; -3: SOLD; -4: ENDED;");
        Due.row("-2", new int[] {house.known(0, 20), house.known(3, 20), house.known(15, 5), house.known(17, 0),
            house.known(17, 39)}, -2, -2, -2, -2, -2);
        Due.row("-3", new int[] {house.known(10, 20), house.known(11, 20), house.known(13, 20), house.known(14, 20)}, 1, -3,
            -3, 3);
        Due.row("-4", new int[] {house.known(12, 2), house.known(13, 2), house.known(17, 2)}, 2, -4, -4);
        x = Due.traced("place a;at 0 make 1 unit a;at 0 make 2 carton a;at 1 pack 1 2;at 2 sell 2;at 3 end 2;");
        Due.row("with all in it", new int[] {x.known(4, 1), x.known(5, 1)}, -3, -4);

        doc.says("Promise 13", "NONE: no such ones.");
        Due.span("k", 0, House.MESSAGES, -1, k -> house.known(k, 1));
        Due.span("number", 0, 39, -1, n -> house.known(17, n));
        Due.row("of a new object", new int[] {new PackTracer().known(0, 0), new PackTracer().known(1, 0)}, -2, -1);
    }

    private void late() {
        doc.says("3", "LATE: a MESSAGE ahead of which (by numbers) one of a later HOUR came.");
        PackTracer x = Due.traced("at 5 end 1;at 5 end 1;at 4 end 1;at 5 end 1;at 999 end 1;at 998 end 1;at 0 end 1;"
            + "at 999 end 1;");
        int[] due = {0, 0, 1, 0, 0, 1, 1, 0};
        for (int k = 0; k < due.length; k++) {
            Due.is("message(" + k + ", 6)", x.message(k, 6), due[k]);
        }
        Due.is("how many", x.count(3), 3);
        Due.tell(x, "at 998 end 1;");
        Due.row("one that is told", new int[] {x.message(8, 6), x.count(3)}, 1, 4);
    }

    private void changed() {
        doc.says("3", "A MESSAGE CHANGED a THING, if behind all of those up to it (by numbers), looked at all by HOURS, "
            + "its PLACE (or SOLD, ENDED, none such) is another one than behind all of those ahead of it.");
        // A late move at 3 makes the one at 5 too soon: the unit is at b, where it was at c.
        PackTracer x = Due.traced("place a;place b;place c;road a b 3;road b c 3;road a c 5;at 0 make 1 unit a;at 5 move 1 c;"
            + "at 3 move 1 b;at 9 end 1;at 8 sell 1;");
        Due.row("a late one undoes another", new int[] {x.changed(0), x.changed(1), x.changed(2), x.changed(3), x.changed(4)},
            1, 1, 1, 1, 0);
        Due.row("as known", new int[] {x.known(2, 1), x.known(3, 1)}, 2, 1);
        x = Due.traced("place a;place b;at 7 back 1 b;at 6 sell 1;at 5 make 1 unit a;at 8 make 2 unit a;at 8 sell 2;"
            + "at 9 back 2 a;");
        Due.row("none such, sold", new int[] {x.changed(0), x.changed(1), x.changed(2), x.changed(3), x.changed(4),
            x.changed(5)}, 0, 0, 1, 1, 1, 1);

        doc.says("Promise 14", "How many THINGS MESSAGE k CHANGED;");
        int[] due = {1, 1, 1, 1, 0, 0, 0, 4, 0, 0, 1, 3, 1, 1, 1, 1, 0};
        for (int k = 0; k < due.length; k++) {
            Due.is("changed(" + k + ")", house.changed(k), due[k]);
        }

        doc.says("Promise 14", "NONE: no such MESSAGE.");
        Due.span("k", 0, House.MESSAGES - 1, -1, k -> house.changed(k));
        Due.is("of a new object", new PackTracer().changed(0), -1);
    }

    private void without() {
        doc.says("Promise 15", "Without MESSAGE k: the PLACE of a THING behind all others;");
        // Without the out (9) the pallet is not sold, for unit 2 in it, and goes to c with all.
        Due.row("without 9", new int[] {house.without(9, 1), house.without(9, 10), house.without(9, 20)}, 1, 2, 2);
        Due.row("without 7", new int[] {house.without(7, 1), house.without(7, 10), house.without(7, 20), house.without(7, 5)},
            1, 0, 3, 3);
        // The last of all others counts, too, and the first.
        PackTracer x = Due.traced("place a;place b;at 7 end 1;at 0 make 1 unit a;at 5 back 1 b;at 1 sell 1;");
        Due.row("of four", new int[] {x.without(0, 1), x.without(1, 1), x.without(2, 1), x.without(3, 1)}, 1, -2, -4, -4);
        Due.row("without a refused one", new int[] {house.without(8, 1), house.without(16, 1), house.without(8, 20)}, 1, 1, 3);

        doc.says("Promise 15", "-2, -3, -4 as of known();");
        Due.row("-2", new int[] {house.without(0, 1), house.without(15, 5), house.without(3, 20), house.without(0, 39)}, -2,
            -2, -2, -2);
        Due.row("-3", new int[] {house.without(13, 20)}, -3);
        // Without the end (12) the carton stays sealed, and the scan of unit 1 (14) brings it to b with unit 2.
        Due.row("-4", new int[] {house.without(0, 2), house.without(16, 2), house.without(12, 2)}, -4, -4, 1);

        doc.says("Promise 15", "NONE: no such ones.");
        Due.span("k", 0, House.MESSAGES - 1, -1, k -> house.without(k, 1));
        Due.span("number", 0, 39, -1, n -> house.without(0, n));
    }

    private void refused() {
        doc.says("Promise 16", "How many MESSAGES are REFUSED for a reason 1 .. 12 (0: TAKEN; -1: REFUSED at all);");
        PackTracer x = Due.traced("place a;place b;fits 1 1;at 0 make 1 unit a;at 0 make 2 carton a;at 0 make 3 unit a;"
            + "at 1 make 1 unit a;at 1 end 9;at 1 pack 1 3;at 1 out 1;"
            + "at 1 back 1 a;at 1 pack 1 2;at 1 free 1;at 1 pack 1 2;at 1 pack 3 2;at 1 open 1;at 1 seal 1;at 1 sell 1;"
                + "at 1 scan 1 b;at 1 sell 2;at 1 free 2;at 1 free 3;at 2 end 3;at 3 end 3;");
        // Verdicts: 0 0 0 1 2 4 5 6 11 0 0 7 8 8 9 10 11 12 12 0 3.
        int[] due = {15, 6, 1, 1, 1, 1, 1, 1, 1, 2, 1, 1, 2, 2};
        for (int why = -1; why <= 12; why++) {
            Due.is("refused(" + why + ")", x.refused(why), due[why + 1]);
        }
        Due.row("of a new object", new int[] {new PackTracer().refused(-1), new PackTracer().refused(0),
            new PackTracer().refused(12)}, 0, 0, 0);

        doc.says("Promise 16", "-2: no such reason.");
        Due.span("reason", -1, 12, -2, why -> x.refused(why));
    }

    private void blamed() {
        doc.says("3", "BLAMED: the MESSAGE without which the fewest others are REFUSED, the first of several.");
        // An end ahead of three others: without it they are taken.
        PackTracer x = Due.traced("place a;at 0 make 1 unit a;at 9 sell 1;at 8 move 1 a;at 7 scan 1 a;at 6 end 1;");
        Due.row("an end", new int[] {x.blamed(0), x.blamed(1)}, 4, 0);
        // None is refused: each is as good, and the first by numbers is looked at last.
        x = Due.traced("place a;at 9 make 1 unit a;at 8 make 2 unit a;at 7 make 3 unit a;");
        Due.row("the first of several", new int[] {x.blamed(0), x.blamed(1)}, 0, 0);
        // Without the make all others are refused: the second is blamed.
        x = Due.traced("place a;at 0 make 1 unit a;at 1 move 1 a;at 2 move 1 a;");
        Due.row("not the make", new int[] {x.blamed(0), x.blamed(1)}, 1, 0);
        // Those that are refused ahead of it, by hours, are counted once each.
        x = Due.traced("place a;at 0 end 9;at 1 make 1 unit a;at 2 end 1;at 3 move 1 a;at 4 move 1 a;at 0 end 9;");
        Due.row("refused ahead of it", new int[] {x.blamed(0), x.blamed(1), x.twoBlamed(0), x.twoBlamed(1), x.twoBlamed(2)},
            2, 2, 0, 2, 1);
        // Itself is no other: a refused one that is left out is not counted.
        x = Due.traced("place a;at 0 make 1 unit a;at 2 sell 1;at 1 sell 2;");
        Due.row("a refused one", new int[] {x.blamed(0), x.blamed(1)}, 2, 0);

        doc.says("Promise 17", "BLAMED, what 0 the MESSAGE, 1 how many others are REFUSED without it;");
        Due.row("of the house", new int[] {house.blamed(0), house.blamed(1)}, 5, 1);
        x = Due.traced("at 3 end 1;");
        Due.row("of one message", new int[] {x.blamed(0), x.blamed(1)}, 0, 0);
        StringBuilder sixty = new StringBuilder();
        for (int k = 0; k < 60; k++) {
            sixty.append("at ").append(k).append(" end 1;");
        }
        x = Due.traced(sixty.toString());
        Due.row("of sixty that are refused", new int[] {x.blamed(0), x.blamed(1), x.twoBlamed(0), x.twoBlamed(1),
            x.twoBlamed(2)}, 0, 59, 0, 1, 58);

        doc.says("Promise 17", "-2: there are no MESSAGES;");
        PackTracer none = Due.traced("place a;");
        Due.row("none", new int[] {none.blamed(0), none.blamed(1), new PackTracer().blamed(0), new PackTracer().blamed(1)},
            -2, -2, -2, -2);

        doc.says("Promise 17", "NONE for another what.");
        Due.span("what", 0, 1, -1, what -> house.blamed(what));
        Due.row("without messages", new int[] {none.blamed(2), none.blamed(-1)}, -1, -1);
    }

    private void twoBlamed() {
        doc.says("3", "TWO BLAMED: two MESSAGES without which the fewest others are REFUSED: "
            + "the first of several by the lesser number, then by the greater one.");
        // Two refused ones by themselves, 1 and 3.
        PackTracer x = Due.traced("place a;at 0 make 1 unit a;at 1 free 1;at 2 move 1 a;at 3 free 1;");
        Due.row("two refused", new int[] {x.twoBlamed(0), x.twoBlamed(1), x.twoBlamed(2)}, 1, 3, 0);
        // All three pairs are as good; the order by hours is the other way round.
        x = Due.traced("place a;at 9 make 1 unit a;at 8 make 2 unit a;at 7 make 3 unit a;");
        Due.row("the first of several", new int[] {x.twoBlamed(0), x.twoBlamed(1), x.twoBlamed(2)}, 0, 1, 0);
        // One is refused, 3: it goes with the first other one that is needed by none.
        x = Due.traced("place a;at 9 make 1 unit a;at 10 move 1 a;at 11 move 1 a;at 1 free 1;at 10 move 1 a;");
        Due.row("the lesser number, then the greater", new int[] {x.twoBlamed(0), x.twoBlamed(1), x.twoBlamed(2)}, 1, 3, 0);
        // Only together: the unit is ended by itself or with its carton; one move less is the best that one can do.
        x = Due.traced("place a;at 0 make 1 unit a;at 0 make 2 carton a;at 1 pack 1 2;at 2 end 1;at 3 end 2;at 4 move 1 a;"
            + "at 5 move 1 a;at 6 move 1 a;");
        Due.row("only together", new int[] {x.twoBlamed(0), x.twoBlamed(1), x.twoBlamed(2), x.blamed(0), x.blamed(1)}, 2, 3,
            0, 5, 2);

        doc.says("Promise 18", "TWO BLAMED, what 0, 1 the MESSAGES, 2 how many others are REFUSED without them;");
        Due.row("of the house", new int[] {house.twoBlamed(0), house.twoBlamed(1), house.twoBlamed(2)}, 5, 16, 0);
        x = Due.traced("at 3 end 1;at 2 end 1;");
        Due.row("of two messages", new int[] {x.twoBlamed(0), x.twoBlamed(1), x.twoBlamed(2)}, 0, 1, 0);

        doc.says("Promise 18", "-2: there are fewer than two;");
        PackTracer one = Due.traced("at 3 end 1;");
        Due.row("one", new int[] {one.twoBlamed(0), one.twoBlamed(1), one.twoBlamed(2)}, -2, -2, -2);
        Due.row("none", new int[] {new PackTracer().twoBlamed(0), new PackTracer().twoBlamed(1),
            new PackTracer().twoBlamed(2)}, -2, -2, -2);

        doc.says("Promise 18", "NONE for another what.");
        Due.span("what", 0, 2, -1, what -> house.twoBlamed(what));
        Due.row("with fewer than two", new int[] {one.twoBlamed(3), one.twoBlamed(-1), new PackTracer().twoBlamed(3)}, -1, -1,
            -1);
    }

    private void severalAnswers() {
        doc.says("4", "The i-th: i from 0 on.");
        Due.row("i 0", new int[] {house.inside(10, 2, 0), house.there(0, 0, 0), house.trail(1, 0, 0), house.met(1, 0, 0),
            house.wereIn(10, 0, 9, 0), house.needs(9, 0),
            house.lost(40, 0, 0), house.clash(2, 0, 2)}, 1, 1, 0, 1, 1, 2, 1, 8);
        Due.row("i -1", new int[] {house.inside(10, 2, -1), house.there(0, 0, -1), house.trail(1, -1, 0), house.met(1, 0, -1),
            house.wereIn(10, 0, 9, -1),
            house.needs(9, -1), house.lost(40, 0, -1), house.clash(2, -1, 2)}, -1, -1, -10, -1, -1, -1, -1, -1);

        doc.says("4", "What is asked changes nothing.");
        PackTracer x = House.told();
        x.feed(0x706c6163, 0x6520713b, 0x20202020, 0x20202020, 0x20202020);
        List<Integer> before = Due.everything(x);
        Due.is("asked twice", Due.everything(x).equals(before) ? 1 : 0, 1);
        Due.row("the tape and the fault", new int[] {x.count(6), x.fault(0), x.fault(1)}, 20, 0, -1);
        Due.is("the tape's bytes", x.text(20), 1);

        doc.says("4", "Of several answers that hold NONE goes first, then -2, -3, -4.");
        Due.row("NONE ahead of -2", new int[] {house.thing(0, 0, 10), house.inside(0, 0, -1), house.met(0, 0, -1),
            house.wereIn(0, 5, 4, 0), house.still(0, 1000),
            house.clash(0, 0, 3), house.soonest(0, 0, 4), house.soonest(5, 28, 4), new PackTracer().blamed(2),
                new PackTracer().twoBlamed(3), new PackTracer().busy(0, 1)},
            -1, -1, -1, -1, -1, -1, -1, -1, -1, -1, -1);
        Due.row("NONE ahead of -3", new int[] {house.soonest(20, 10, 4), house.needs(8, -1), house.thing(20, 10, 10)}, -1, -1,
            -1);
        Due.row("NONE ahead of -4", new int[] {house.thing(2, 999, 10), house.still(2, 1000), house.soonest(2, 999, -4)}, -1,
            -1, -1);
        Due.row("-2, as -3 and -4 are to come", new int[] {house.known(3, 20), house.known(1, 2), house.thing(5, 27, 3),
            house.soonest(5, 27, 3), house.still(5, 27)},
            -2, -2, -2, -2, -2);
        // A sold one that ended is sold no more: one answer alone holds.
        PackTracer y = Due.traced("place a;at 0 make 1 unit a;at 1 sell 1;at 2 end 1;");
        Due.row("-4", new int[] {y.thing(1, 2, 3), y.known(3, 1), y.soonest(1, 2, 0), y.still(1, 2)}, -4, -4, -4, -4);

        doc.says("4", "IndexOutOfBoundsException ahead of NoSuchElementException.");
        Due.row("both", new int[] {Due.message(house, -1, -1), Due.message(house, 17, 7),
            Due.message(new PackTracer(), 0, 7)}, Due.INDEX, Due.INDEX, Due.INDEX);
    }
}
