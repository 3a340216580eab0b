/** Promises 26 to 35, and what "==== 3." says of the window: what would be, and what is lost, busy, far, in two places. */
final class WouldEdges {
    private final Sentences doc;
    private final PackTracer house = House.told();

    WouldEdges(Sentences doc) {
        this.doc = doc;
    }

    void run() {
        cause();
        needs();
        ifAt();
        window();
        lost();
        ifSwapped();
        busy();
        travelled();
        clash();
        soonest();
    }

    private void cause() {
        doc.says("Promise 26", "The first MESSAGE (by numbers) without which MESSAGE k, which is REFUSED, would be TAKEN;");
        Due.row("of the house", new int[] {house.cause(8), house.cause(16)}, 2, 3);
        // The carton is full: without the pack (1) or the make (3) of the other unit there is room; by hours the make goes first.
        PackTracer x = Due.traced("place a;fits 1 1;at 0 make 1 unit a;at 2 pack 9 2;at 0 make 2 carton a;at 1 make 9 unit a;"
            + "at 3 pack 1 2;");
        Due.verdicts(x, "a full carton", 0, 0, 0, 0, 7);
        Due.is("the first by numbers", x.cause(4), 1);
        // Message 0 is to blame for the sale that is refused, as it quarantines the unit.
        x = Due.traced("place a;at 5 make 1 unit a;at 4 make 1 unit a;at 6 sell 1;");
        Due.row("message 0", new int[] {x.cause(0), x.cause(2)}, 1, 0);

        doc.says("Promise 26", "-2: none;");
        x = Due.traced("place a;place b;at 0 make 1 unit a;at 5 move 1 b;at 6 free 1;at 7 out 3;at 3 end 1;at 2 end 1;");
        Due.verdicts(x, "no causes", 0, 3, 3, 2, 3, 0);
        Due.row("none", new int[] {x.cause(1), x.cause(2), x.cause(3)}, -2, -2, -2);
        Due.is("of one message", Due.traced("at 0 end 1;").cause(0), -2);

        doc.says("Promise 26", "-3: it is TAKEN;");
        for (int k = 0; k < House.MESSAGES; k++) {
            if (k != 8 && k != 16) {
                Due.is("cause(" + k + ")", house.cause(k), -3);
            }
        }

        doc.says("Promise 26", "NONE: no such MESSAGE.");
        Due.span("k", 0, House.MESSAGES - 1, -1, k -> house.cause(k));
        Due.is("of a new object", new PackTracer().cause(0), -1);
    }

    private void needs() {
        doc.says("Promise 27", "The i-th (by numbers) of the MESSAGES without which, each by itself, MESSAGE k, "
            + "which is TAKEN, would be REFUSED;");
        Due.list("needs(7)", i -> house.needs(7, i), 3);
        Due.list("needs(9)", i -> house.needs(9, i), 2, 3, 6);
        Due.list("needs(10)", i -> house.needs(10, i), 3, 9);
        Due.list("needs(11)", i -> house.needs(11, i), 0, 3, 6, 7);
        Due.list("needs(12)", i -> house.needs(12, i), 1);
        Due.list("needs(13)", i -> house.needs(13, i), 3, 9, 10);
        Due.list("needs(14)", i -> house.needs(14, i), 0);
        // By numbers, though they are looked at the other way round; each by itself: one of two quarantines is enough.
        PackTracer x = Due.traced("place a;at 9 out 1;at 8 pack 1 2;at 7 make 2 carton a;at 6 make 1 unit a;"
            + "at 10 make 2 unit a;at 11 make 2 unit a;at 12 free 2;");
        Due.list("the other way round", i -> x.needs(0, i), 1, 2, 3);
        // Without the first make of 2 the next ones make it and quarantine it.
        Due.list("each by itself", i -> x.needs(6, i));

        doc.says("Promise 27", "-2: there are not so many;");
        Due.list("needs(0)", i -> house.needs(0, i));
        Due.list("needs(15)", i -> house.needs(15, i));

        doc.says("Promise 27", "-3: it is REFUSED;");
        Due.row("refused", new int[] {house.needs(8, 0), house.needs(16, 0), house.needs(8, 60),
            house.needs(8, Due.GREATEST)}, -3, -3, -3, -3);

        doc.says("Promise 27", "NONE: no such ones.");
        Due.span("k", 0, House.MESSAGES - 1, -1, k -> house.needs(k, 0));
        Due.row("i below 0", new int[] {house.needs(9, -1), house.needs(8, -1), house.needs(9, Due.LEAST)}, -1, -1, -1);
    }

    private void ifAt() {
        doc.says("Promise 28", "Were MESSAGE k told for another HOUR (0 .. 999;"
            + " all else as it is), n -1: how many MESSAGES would be REFUSED, n 0 .. 39: where THING n would be "
            + "(-2, -3, -4 as of known());");
        Due.row("8 at hour 6", new int[] {house.ifAt(8, 6, -1), house.ifAt(8, 6, 1), house.ifAt(8, 6, 10),
            house.ifAt(8, 6, 20)}, 2, 1, 0, 3);
        Due.row("8 at hours 7, 12, 999", new int[] {house.ifAt(8, 7, -1), house.ifAt(8, 12, -1), house.ifAt(8, 999, -1)}, 2,
            2, 2);
        Due.row("0 at hour 999", new int[] {house.ifAt(0, 999, -1), house.ifAt(0, 999, 1), house.ifAt(0, 999, 39),
            house.ifAt(0, 999, 0)}, 5, 0, -2, -2);
        Due.row("10 at hour 5", new int[] {house.ifAt(10, 5, -1), house.ifAt(10, 5, 1), house.ifAt(10, 5, 2),
            house.ifAt(10, 5, 20)}, 5, 3, -4, 3);
        Due.row("13 at hour 9", new int[] {house.ifAt(13, 9, 20), house.ifAt(13, 9, -1)}, -3, 3);
        Due.is("12 at hour 0", house.ifAt(12, 0, 2), -4);
        // Its number stays: at one hour with others it is looked at by it.
        PackTracer x = Due.traced("place a;at 5 make 1 unit a;at 9 sell 1;at 5 back 1 a;");
        Due.row("by its number", new int[] {x.ifAt(1, 5, -1), x.ifAt(1, 5, 1), x.ifAt(0, 9, -1), x.ifAt(2, 9, -1),
            x.ifAt(2, 9, 1), x.ifAt(2, 8, 1)}, 0, 0, 1, 0, 0, -3);
        // Told for its own hour, all is as it is.
        Due.row("its own hour", new int[] {house.ifAt(8, 8, -1), house.ifAt(14, 30, 1)}, 2, 1);

        doc.says("Promise 28", "-1000: no such ones.");
        Due.span("k", 0, House.MESSAGES - 1, -1000, k -> house.ifAt(k, 5, 1));
        Due.span("hour", 0, 999, -1000, hour -> house.ifAt(8, hour, 1));
        Due.span("n", -1, 39, -1000, n -> house.ifAt(8, 5, n));
        Due.is("of a new object", new PackTracer().ifAt(0, 0, -1), -1000);
    }

    private static int[] windowOf(PackTracer x, int k) {
        return new int[] {x.window(k, 0), x.window(k, 1), x.window(k, 2)};
    }

    private void window() {
        doc.says("3", "WINDOW of MESSAGE k: HOURS by which, if it had been told for these, all else as it is (its number, "
            + "too), it would be TAKEN.");
        Due.row("the move: hours 5 to 8", windowOf(house, 7), 5, 8, 4);
        Due.row("the scan: hours 0 to 6, and 20", windowOf(house, 8), 0, 20, 8);
        // At the hour of the make and of the end: ahead of them or behind by its number.
        PackTracer x = Due.traced("place a;at 7 sell 1;at 5 make 1 unit a;at 9 end 1;at 7 move 1 a;");
        Due.row("the sale, ahead of a make and an end of its hour", windowOf(x, 0), 6, 9, 4);
        // The sale is at 7, ahead of the move: behind the make at 5 it is taken, at 6, and at 7 no more.
        Due.row("the move, behind the make, the sale and the end", windowOf(x, 3), 5, 6, 2);

        doc.says("Promise 29", "Of the WINDOW of MESSAGE k, what 0 the first HOUR, 1 the last one, 2 how many HOURS;");
        Due.row("all hours", windowOf(house, 0), 0, 999, 1000);
        Due.row("an end", windowOf(house, 12), 0, 999, 1000);
        Due.row("one that is taken or not by its hour", windowOf(house, 13), 10, 999, 990);
        x = Due.traced("place a;at 999 make 1 unit a;at 3 end 1;");
        Due.row("the last hour alone", windowOf(x, 1), 999, 999, 1);
        x = Due.traced("place a;at 9 end 1;at 0 make 1 unit a;at 1 end 1;");
        Due.row("one hour: ahead of the end of its hour", windowOf(x, 0), 1, 1, 1);

        doc.says("Promise 29", "-2 (of 0, 1): there is none;");
        Due.row("none", windowOf(house, 16), -2, -2, 0);
        Due.row("of one message", windowOf(Due.traced("at 5 end 1;"), 0), -2, -2, 0);

        doc.says("Promise 29", "NONE: no such ones.");
        Due.span("k", 0, House.MESSAGES - 1, -1, k -> house.window(k, 2));
        Due.span("what", 0, 2, -1, what -> house.window(7, what));
        Due.row("what of an empty window", new int[] {house.window(16, 3), house.window(16, -1),
            new PackTracer().window(0, 0)}, -1, -1, -1);
    }

    private void lost() {
        doc.says("Promise 30", "The i-th (by numbers) of the THINGS that are LOST BY HOUR h by n hours (0 .. 999): "
            + "neither SOLD nor ENDED, KNOWN n hours or more ahead of h;");
        Due.list("lost(40, 0)", i -> house.lost(40, 0, i), 1, 5, 10, 20);
        Due.list("lost(40, 10)", i -> house.lost(40, 10, i), 1, 5, 10, 20);
        Due.list("lost(40, 11)", i -> house.lost(40, 11, i), 5, 10, 20);
        Due.list("lost(40, 12)", i -> house.lost(40, 12, i), 5, 10, 20);
        Due.list("lost(40, 13)", i -> house.lost(40, 13, i), 10, 20);
        Due.list("lost(40, 15)", i -> house.lost(40, 15, i), 10, 20);
        Due.list("lost(40, 16)", i -> house.lost(40, 16, i), 10);
        Due.list("lost(40, 28)", i -> house.lost(40, 28, i), 10);
        Due.list("sold, not lost", i -> house.lost(10, 0, i), 1, 2, 10);
        Due.list("known by what is topmost", i -> house.lost(29, 17, i), 1, 10);
        PackTracer x = Due.traced("place a;at 0 make 0 unit a;at 0 make 39 unit a;at 999 make 7 unit a;");
        Due.list("the first hour, none ahead", i -> x.lost(0, 0, i), 0, 39);
        Due.list("all hours", i -> x.lost(999, 999, i), 0, 39);
        Due.list("the last hour", i -> x.lost(999, 0, i), 0, 7, 39);

        doc.says("Promise 30", "-2: there are not so many;");
        Due.list("lost(40, 29)", i -> house.lost(40, 29, i));
        Due.list("lost(0, 1)", i -> house.lost(0, 1, i));
        Due.list("lost(0, 999)", i -> house.lost(0, 999, i));
        PackTracer empty = new PackTracer();
        Due.list("of a new object", i -> empty.lost(999, 0, i));

        doc.says("Promise 30", "NONE: no such ones.");
        Due.span("h", 0, 999, -1, h -> house.lost(h, 0, 0));
        Due.span("n", 0, 999, -1, n -> house.lost(999, n, 0));
    }

    private void ifSwapped() {
        doc.says("Promise 31", "Were MESSAGES k and j told for each other's HOUR (all else as it is), n -1: "
            + "how many MESSAGES would be REFUSED, n 0 .. 39: where THING n would be "
            + "(-2, -3, -4 as of known());");
        Due.row("7 and 9", new int[] {house.ifSwapped(7, 9, -1), house.ifSwapped(7, 9, 1), house.ifSwapped(7, 9, 10),
            house.ifSwapped(7, 9, 20), house.ifSwapped(7, 9, 2)},
            1, 1, 0, 3, -4);
        Due.row("9 and 7", new int[] {house.ifSwapped(9, 7, -1), house.ifSwapped(9, 7, 10)}, 1, 0);
        Due.row("0 and 15", new int[] {house.ifSwapped(0, 15, -1), house.ifSwapped(0, 15, 1), house.ifSwapped(15, 0, 39),
            house.ifSwapped(15, 0, 0)}, 4, 0, -2, -2);
        Due.row("10 and 13", new int[] {house.ifSwapped(10, 13, 20), house.ifSwapped(10, 13, -1)}, -3, 3);
        Due.row("two of one hour", new int[] {house.ifSwapped(0, 3, -1), house.ifSwapped(4, 5, 1)}, 2, 1);

        doc.says("Promise 31", "-1000: no such ones, one and the same.");
        for (int k = 0; k < House.MESSAGES; k++) {
            Due.row("one and the same", new int[] {house.ifSwapped(k, k, -1), house.ifSwapped(k, k, 1)}, -1000, -1000);
        }
        Due.span("k", 0, House.MESSAGES - 2, -1000, k -> house.ifSwapped(k == House.MESSAGES - 1 ? 17 : k, 16, 1));
        Due.span("j", 1, House.MESSAGES - 1, -1000, j -> house.ifSwapped(0, j, 1));
        Due.span("n", -1, 39, -1000, n -> house.ifSwapped(0, 1, n));
        Due.row("of few", new int[] {new PackTracer().ifSwapped(0, 1, -1), Due.traced("at 0 end 1;").ifSwapped(0, 1, -1)},
            -1000, -1000);
    }

    private void busy() {
        doc.says("Promise 32", "Of a PLACE (-3: SOLD, -4: ENDED), "
            + "what 0 the most THINGS that were there behind some MESSAGE (0 without any MESSAGE), "
            + "1 the HOUR of the first such MESSAGE (-2: there are no MESSAGES);");
        Due.row("most", new int[] {house.busy(0, 0), house.busy(1, 0), house.busy(2, 0), house.busy(3, 0), house.busy(-3, 0),
            house.busy(-4, 0)}, 4, 4, 3, 2, 1, 1);
        Due.row("since", new int[] {house.busy(0, 1), house.busy(1, 1), house.busy(2, 1), house.busy(3, 1), house.busy(-3, 1),
            house.busy(-4, 1)}, 0, 7, 12, 28, 10, 20);
        // As many once more later: the first counts; by hours, not as they came.
        PackTracer x = Due.traced("place a;place b;at 9 back 1 a;at 3 make 1 unit a;at 5 sell 1;");
        Due.row("the first such", new int[] {x.busy(0, 0), x.busy(0, 1), x.busy(-3, 1)}, 1, 3, 5);
        Due.row("nobody ever: each message is such a one", new int[] {x.busy(1, 0), x.busy(1, 1), x.busy(-4, 0),
            x.busy(-4, 1)}, 0, 3, 0, 3);
        x = Due.traced("place a;at 7 make 1 unit a;at 7 end 1;at 4 end 2;");
        Due.row("within one hour", new int[] {x.busy(0, 0), x.busy(0, 1), x.busy(-4, 0), x.busy(-4, 1)}, 1, 7, 1, 7);
        PackTracer none = Due.traced("place a;");
        Due.row("without any message", new int[] {none.busy(0, 0), none.busy(0, 1), none.busy(-3, 0), none.busy(-3, 1),
            none.busy(-4, 0), none.busy(-4, 1)}, 0, -2, 0, -2, 0, -2);

        doc.says("Promise 32", "NONE: no such ones.");
        Due.span("place", 0, 3, -1, p -> house.busy(p, 0));
        Due.row("other places", new int[] {house.busy(-1, 0), house.busy(-2, 0), house.busy(-5, 0), none.busy(1, 1),
            new PackTracer().busy(0, 0)}, -1, -1, -1, -1, -1);
        Due.span("what", 0, 1, -1, what -> house.busy(0, what));
        Due.span("what of sold ones", 0, 1, -1, what -> house.busy(-3, what));
    }

    private void travelled() {
        doc.says("Promise 33", "HOURS of the shortest ways from each PLACE of the TRAIL of a THING to the next PLACE of it, "
            + "together (SOLD and ENDED left out of the TRAIL; "
            + "ways that there are not count 0);");
        Due.row("of the house", new int[] {house.travelled(1), house.travelled(2), house.travelled(5), house.travelled(10),
            house.travelled(20)}, 11, 8, 0, 8, 5);
        // Sold at a, back at b; sold at b, back at b; sold at b, back at d, where no way leads; sold at d, back at c.
        PackTracer x = Due.traced("place a;place b;place c;place d;road a b 5;road b c 3;at 0 make 1 unit a;at 1 sell 1;"
            + "at 2 back 1 b;at 3 sell 1;at 4 back 1 b;at 5 sell 1;at 6 back 1 d;"
            + "at 7 sell 1;at 8 back 1 c;at 18 move 1 a;at 19 end 1;");
        Due.is("over sales", x.travelled(1), 13);
        // The shortest way counts, not the hours it took, nor the road that is longer.
        x = Due.traced("place a;place b;place c;road a c 9;road a b 2;road b c 2;at 0 make 1 unit a;at 500 move 1 c;");
        Due.is("the shortest way", x.travelled(1), 4);

        doc.says("Promise 33", "-2: none such was made;");
        Due.row("none", new int[] {house.travelled(0), house.travelled(39), new PackTracer().travelled(0)}, -2, -2, -2);

        doc.says("Promise 33", "NONE: no such number.");
        Due.span("number", 0, 39, -1, n -> house.travelled(n));
    }

    private void clash() {
        doc.says("Promise 34", "The i-th (by their order) of the scans of a THING that were REFUSED for 6 or 10, "
            + "what 0 the PLACE, 1 the HOUR, 2 the MESSAGE;");
        Due.list("place", i -> house.clash(2, i, 0), 0);
        Due.list("hour", i -> house.clash(2, i, 1), 8);
        Due.list("message", i -> house.clash(2, i, 2), 8);
        // Not those that are taken, or refused for 2 or 3, nor a move that is too soon; quarantined by 3, it is not sold.
        PackTracer x = Due.traced("place a;place b;at 8 scan 1 a;at 9 scan 1 b;at 1 make 1 unit a;at 5 scan 1 b;at 6 scan 1 a;"
            + "at 7 sell 1;at 0 scan 1 b;at 12 scan 1 b;at 11 end 1;at 4 move 1 b;");
        Due.verdicts(x, "clashes for 10", 0, 10, 0, 10, 0, 11, 2, 3, 0, 10);
        Due.list("for 10", i -> x.clash(1, i, 2), 3, 1);
        PackTracer y = Due.traced("place a;place b;at 9 scan 1 b;at 8 scan 1 a;at 1 make 1 unit a;at 5 sell 1;at 10 back 1 a;"
            + "at 11 scan 1 b;at 11 scan 1 a;");
        Due.verdicts(y, "clashes for 6 and 10", 6, 6, 0, 0, 0, 10, 0);
        Due.list("by hours", i -> y.clash(1, i, 2), 1, 0, 5);
        Due.list("by hours, the place", i -> y.clash(1, i, 0), 0, 1, 1);
        Due.list("by hours, the hour", i -> y.clash(1, i, 1), 8, 9, 11);

        doc.says("Promise 34", "-2: there are not so many;");
        Due.list("none such", i -> house.clash(1, i, 0));
        Due.list("none made", i -> house.clash(0, i, 2));
        PackTracer empty = new PackTracer();
        Due.list("of a new object", i -> empty.clash(39, i, 1));

        doc.says("Promise 34", "NONE: no such ones.");
        Due.span("number", 0, 39, -1, n -> house.clash(n, 0, 0));
        Due.span("what", 0, 2, -1, what -> house.clash(2, 0, what));
    }

    private void soonest() {
        doc.says("Promise 35", "The earliest HOUR at which a THING, as it is BY HOUR h, can be at a PLACE (h, if it is there;"
            + " else KNOWN and the shortest way, h at least);");
        Due.row("there", new int[] {house.soonest(1, 0, 0), house.soonest(1, 6, 0), house.soonest(1, 999, 1),
            house.soonest(5, 28, 3)}, 0, 6, 999, 28);
        Due.row("elsewhere", new int[] {house.soonest(1, 2, 1), house.soonest(1, 2, 2), house.soonest(1, 30, 0),
            house.soonest(1, 30, 2)}, 5, 8, 35, 33);
        Due.row("h at least", new int[] {house.soonest(1, 4, 1), house.soonest(1, 5, 1), house.soonest(1, 6, 1),
            house.soonest(1, 40, 0), house.soonest(10, 999, 0)}, 5, 5, 6, 40, 999);
        PackTracer x = Due.traced("place a;place b;road a b 99;at 999 make 1 unit a;");
        Due.is("beyond the last hour", x.soonest(1, 999, 1), 1098);

        doc.says("Promise 35", "-2: none such, there is no way;");
        Due.row("none such", new int[] {house.soonest(5, 27, 3), house.soonest(0, 999, 0), house.soonest(39, 0, 3)}, -2, -2, -2);
        Due.row("no way", new int[] {house.soonest(1, 999, 3), house.soonest(5, 28, 0), house.soonest(20, 25, 1)}, -2, -2, -2);

        doc.says("Promise 35", "-3: SOLD; -4: ENDED;");
        Due.row("sold", new int[] {house.soonest(20, 10, 0), house.soonest(20, 10, 1), house.soonest(20, 24, 2)}, -3, -3, -3);
        Due.row("ended", new int[] {house.soonest(2, 20, 0), house.soonest(2, 20, 2), house.soonest(2, 999, 1)}, -4, -4, -4);
        // They are at no place: there is none from which a way could lack.
        Due.row("sold or ended, whatever place is asked", new int[] {house.soonest(20, 10, 3), house.soonest(2, 20, 3)}, -3, -4);

        doc.says("Promise 35", "NONE: no such ones.");
        Due.span("number", 0, 39, -1, n -> house.soonest(n, 0, 0));
        Due.span("h", 0, 999, -1, h -> house.soonest(1, h, 0));
        Due.span("place", 0, 3, -1, p -> house.soonest(1, 0, p));
        Due.row("other places", new int[] {house.soonest(20, 10, -3), house.soonest(2, 20, -4),
            new PackTracer().soonest(0, 0, 0)}, -1, -1, -1);
    }
}
