/** Promises 19 to 25, and what "==== 3." says of them: who was with whom, in what, where, and for how long. */
final class TogetherEdges {
    private final Sentences doc;
    private final PackTracer house = House.told();

    TogetherEdges(Sentences doc) {
        this.doc = doc;
    }

    void run() {
        metBySentence();
        met();
        wereIn();
        most();
        still();
        components();
        dwelt();
        flow();
    }

    private void metBySentence() {
        doc.says("3", "MET: with a THING n from HOUR h on: those that had, as it was BY HOUR h, "
            + "or behind some MESSAGE of a later HOUR (in their order), "
            + "the same topmost one as n or one that had MET it by then (n itself, too;"
                + " ENDED ones meet nobody any more, but stay).");
        // 1 and 2 in carton 8, then 2 and 3 in carton 9, then 3 and 4 in carton 10.
        PackTracer x = Due.traced("place a;at 0 make 1 unit a;at 0 make 2 unit a;at 0 make 3 unit a;at 0 make 4 unit a;"
            + "at 0 make 8 carton a;at 0 make 9 carton a;at 0 make 10 carton a;"
            + "at 1 pack 1 8;at 2 pack 2 8;at 3 out 2;at 4 pack 2 9;at 5 pack 3 9;at 6 out 3;at 7 pack 3 10;at 8 pack 4 10;");
        Due.list("from one to the next", i -> x.met(1, 0, i), 1, 2, 3, 4, 8, 9, 10);
        Due.list("not back in time", i -> x.met(4, 0, i), 3, 4, 10);
        Due.list("as it was by hour 2", i -> x.met(1, 2, i), 1, 2, 3, 4, 8, 9, 10);
        Due.list("not what was ahead of hour 3", i -> x.met(1, 3, i), 1, 8);
        Due.list("2 from hour 3 on", i -> x.met(2, 3, i), 2, 3, 4, 9, 10);
        Due.list("3 from hour 6 on", i -> x.met(3, 6, i), 3, 4, 10);
        Due.list("itself alone", i -> x.met(2, 999, i), 2, 9);
        Due.list("itself alone", i -> x.met(1, 999, i), 1, 8);
        // Topmost ones: two cartons on one pallet meet with all in them.
        PackTracer y = Due.traced("place a;at 0 make 1 unit a;at 0 make 2 unit a;at 0 make 8 carton a;at 0 make 9 carton a;"
            + "at 0 make 20 pallet a;"
            + "at 1 pack 1 8;at 2 pack 2 9;at 3 pack 8 20;at 4 pack 9 20;at 5 out 9;at 6 out 2;");
        Due.list("on one pallet", i -> y.met(1, 0, i), 1, 2, 8, 9, 20);
        Due.list("up to hour 3", i -> y.met(2, 5, i), 2, 9);
        Due.list("behind it", i -> y.met(20, 5, i), 1, 8, 20);
        // Within one hour, in their order: 1 is out of the carton ahead of 2 going in, and 3 goes in ahead of 1 coming out.
        PackTracer z = Due.traced("place a;at 0 make 1 unit a;at 0 make 2 unit a;at 0 make 3 unit a;at 0 make 8 carton a;"
            + "at 1 pack 1 8;at 5 pack 3 8;at 5 out 1;at 5 out 3;at 5 pack 2 8;");
        Due.list("behind some message of an hour", i -> z.met(1, 1, i), 1, 2, 3, 8);
        Due.list("by that hour", i -> z.met(1, 5, i), 1);
        // The carton is met with: by it 2 comes, though 1 was out already.
        Due.list("by the carton", i -> z.met(3, 4, i), 1, 2, 3, 8);
        // ENDED ones stay, and bring nobody any more.
        PackTracer e = Due.traced("place a;at 0 make 1 unit a;at 0 make 2 unit a;at 0 make 3 unit a;at 0 make 8 carton a;"
            + "at 1 pack 1 8;at 2 pack 2 8;at 3 end 8;at 4 make 8 carton a;at 5 pack 3 8;");
        Due.list("an ended one stays", i -> e.met(1, 0, i), 1, 2, 8);
        PackTracer f = Due.traced("place a;at 0 make 1 unit a;at 0 make 2 unit a;at 0 make 3 unit a;at 0 make 8 carton a;"
            + "at 1 pack 1 8;at 2 pack 2 8;at 3 end 1;at 4 pack 3 8;");
        Due.list("itself ended, others go on", i -> f.met(1, 2, i), 1, 2, 3, 8);
        Due.list("one that ended ahead of it is not met", i -> f.met(3, 0, i), 2, 3, 8);
    }

    private void met() {
        doc.says("Promise 19", "The i-th (by numbers) of those MET with a THING from HOUR h on;");
        Due.list("met(1, 0)", i -> house.met(1, 0, i), 1, 2, 10, 20);
        Due.list("met(1, 8)", i -> house.met(1, 8, i), 1, 2, 10, 20);
        Due.list("met(1, 9)", i -> house.met(1, 9, i), 1, 2, 10);
        Due.list("met(1, 20)", i -> house.met(1, 20, i), 1, 10);
        Due.list("met(1, 30)", i -> house.met(1, 30, i), 1);
        Due.list("met(20, 9)", i -> house.met(20, 9, i), 20);
        Due.list("met(5, 28)", i -> house.met(5, 28, i), 5);
        PackTracer x = Due.traced("place a;at 0 make 39 unit a;at 0 make 0 carton a;at 1 pack 39 0;at 2 sell 0;");
        Due.list("0 and 39, sold ones, too", i -> x.met(39, 2, i), 0, 39);

        doc.says("Promise 19", "-2: there are not so many; none, if none such was made BY HOUR h, or it is ENDED;");
        Due.list("made later", i -> house.met(5, 27, i));
        Due.list("never made", i -> house.met(0, 0, i));
        Due.list("ended", i -> house.met(2, 20, i));
        Due.list("ahead of its end", i -> house.met(2, 19, i), 1, 2, 10);

        doc.says("Promise 19", "NONE: no such ones.");
        Due.span("number", 0, 39, -1, n -> house.met(n, 0, 0));
        Due.span("h", 0, 999, -1, h -> house.met(1, h, 0));
    }

    private void wereIn() {
        doc.says("Promise 20", "The i-th (by numbers) of all THINGS that were in a THING (at any depth) as it was BY HOUR a, "
            + "or behind some MESSAGE of HOURS above a up to b;");
        Due.list("wereIn(20, 0, 1)", i -> house.wereIn(20, 0, 1, i));
        Due.list("wereIn(20, 0, 2)", i -> house.wereIn(20, 0, 2, i), 1, 2, 10);
        Due.list("wereIn(20, 8, 8)", i -> house.wereIn(20, 8, 8, i), 1, 2, 10);
        Due.list("wereIn(20, 9, 999)", i -> house.wereIn(20, 9, 999, i));
        Due.list("wereIn(10, 19, 20)", i -> house.wereIn(10, 19, 20, i), 1, 2);
        Due.list("wereIn(10, 20, 20)", i -> house.wereIn(10, 20, 20, i), 1);
        Due.list("wereIn(10, 20, 999)", i -> house.wereIn(10, 20, 999, i), 1);
        Due.list("wereIn(10, 30, 999)", i -> house.wereIn(10, 30, 999, i));
        Due.list("wereIn(10, 0, 999)", i -> house.wereIn(10, 0, 999, i), 1, 2);
        // In and out within one hour above a: behind a message; of hour a itself only what is left.
        PackTracer x = Due.traced("place a;at 0 make 1 unit a;at 0 make 2 carton a;at 5 pack 1 2;at 5 out 1;at 7 pack 1 2;"
            + "at 8 end 2;");
        Due.list("above a", i -> x.wereIn(2, 4, 5, i), 1);
        Due.list("by hour a", i -> x.wereIn(2, 5, 5, i));
        Due.list("up to b", i -> x.wereIn(2, 5, 6, i));
        Due.list("up to b, with b", i -> x.wereIn(2, 5, 7, i), 1);
        Due.list("an ended one: as it was", i -> x.wereIn(2, 7, 999, i), 1);
        Due.list("an ended one: behind its end", i -> x.wereIn(2, 8, 999, i));

        doc.says("Promise 20", "-2: there are not so many;");
        Due.list("of a unit", i -> house.wereIn(1, 0, 999, i));
        Due.list("of none", i -> house.wereIn(0, 0, 999, i));
        PackTracer empty = new PackTracer();
        Due.list("of a new object", i -> empty.wereIn(0, 0, 999, i));

        doc.says("Promise 20", "NONE: no such ones, b below a.");
        Due.span("number", 0, 39, -1, n -> house.wereIn(n, 0, 999, 0));
        Due.span("a", 0, 999, -1, a -> house.wereIn(10, a, 999, 0));
        Due.span("b", 0, 999, -1, b -> house.wereIn(10, 0, b, 0));
        Due.row("b below a", new int[] {house.wereIn(10, 5, 4, 0), house.wereIn(10, 999, 0, 0), house.wereIn(10, 5, 5, 0),
            house.wereIn(0, 1, 0, 0)}, -1, -1, 1, -1);
    }

    private void most() {
        doc.says("Promise 21", "The most THINGS that were in a THING (at any depth) behind some MESSAGE;");
        Due.row("of the house", new int[] {house.most(1), house.most(2), house.most(5), house.most(10), house.most(20)}, 0, 0,
            0, 2, 3);
        PackTracer x = Due.traced("place a;at 0 make 1 unit a;at 0 make 2 carton a;at 5 pack 1 2;at 5 out 1;at 8 end 2;");
        Due.row("within one hour; ended", new int[] {x.most(2), x.most(1)}, 1, 0);

        doc.says("Promise 21", "-2: none such was made;");
        Due.row("none", new int[] {house.most(0), house.most(39), new PackTracer().most(0)}, -2, -2, -2);

        doc.says("Promise 21", "NONE: no such number.");
        Due.span("number", 0, 39, -1, n -> house.most(n));
    }

    private void still() {
        doc.says("3", "STILL of a THING BY HOUR h: the HOUR of the latest MESSAGE (by their order) behind which all that is in it "
            + "(at any depth) is other than ahead of it, "
            + "or as it was made.");
        Due.row("of the carton", new int[] {house.still(10, 0), house.still(10, 1), house.still(10, 19), house.still(10, 20),
            house.still(10, 29), house.still(10, 30),
            house.still(10, 999)}, 0, 1, 1, 20, 20, 30, 30);
        Due.row("of the pallet", new int[] {house.still(20, 1), house.still(20, 2), house.still(20, 8), house.still(20, 9),
            house.still(20, 999)}, 0, 2, 2, 9, 9);
        Due.row("of others", new int[] {house.still(1, 999), house.still(5, 28)}, 0, 28);
        // At any depth; a refused one, an open, a seal, a move, a second make change nothing.
        PackTracer x = Due.traced("place a;at 0 make 1 unit a;at 0 make 2 carton a;at 0 make 3 pallet a;at 4 pack 2 3;"
            + "at 6 pack 1 2;at 7 pack 1 2;at 8 open 2;at 8 seal 2;at 8 move 3 a;"
            + "at 8 make 3 pallet a;at 9 out 1;at 9 scan 3 a;");
        Due.row("at any depth", new int[] {x.still(3, 3), x.still(3, 5), x.still(3, 6), x.still(3, 8), x.still(3, 9)}, 0, 4,
            6, 6, 9);
        // Another, though as many: out and in.
        x = Due.traced("place a;at 0 make 1 unit a;at 0 make 2 carton a;at 3 pack 1 2;at 5 out 1;at 5 pack 1 2;");
        Due.is("out and in again", x.still(2, 999), 5);

        doc.says("Promise 22", "STILL; -2: none such was made; -4: it is ENDED;");
        Due.row("STILL", new int[] {house.still(1, 0), house.still(20, 999)}, 0, 9);
        Due.row("-2", new int[] {house.still(5, 27), house.still(0, 999), new PackTracer().still(0, 0)}, -2, -2, -2);
        Due.row("-4", new int[] {house.still(2, 19), house.still(2, 20), house.still(2, 999)}, 0, -4, -4);

        doc.says("Promise 22", "NONE: no such ones.");
        Due.span("number", 0, 39, -1, n -> house.still(n, 0));
        Due.span("h", 0, 999, -1, h -> house.still(1, h));
    }

    private void components() {
        doc.says("3", "COMPONENTS at a PLACE: THINGS there that hang together by being IN one that isn't OPEN: "
            + "as many scans tell of all of them.");
        String all = "place a;place b;at 0 make 1 unit a;at 0 make 2 unit a;at 0 make 3 carton a;at 0 make 4 carton a;"
            + "at 0 make 5 pallet a;at 1 pack 1 3;at 1 pack 2 4;at 1 pack 3 5;at 1 pack 4 5;";
        PackTracer x = Due.traced(all + "at 2 open 3;at 3 open 5;at 4 seal 3;at 5 seal 5;at 6 end 3;at 7 sell 5;");
        Due.row("by hours", new int[] {x.components(0, 0), x.components(0, 1), x.components(0, 2), x.components(0, 3),
            x.components(0, 4), x.components(0, 5), x.components(0, 6),
            x.components(0, 7)}, 5, 1, 2, 4, 3, 1, 2, 0);

        doc.says("Promise 23", "COMPONENTS at a PLACE BY HOUR h;");
        Due.row("a", new int[] {house.components(0, 0), house.components(0, 1), house.components(0, 2),
            house.components(0, 7)}, 4, 2, 1, 0);
        Due.row("b", new int[] {house.components(1, 7), house.components(1, 9), house.components(1, 10),
            house.components(1, 12), house.components(1, 30)}, 1, 2, 1, 0, 1);
        Due.row("c", new int[] {house.components(2, 12), house.components(2, 20), house.components(2, 30)}, 1, 2, 1);
        Due.row("d", new int[] {house.components(3, 24), house.components(3, 25), house.components(3, 28),
            house.components(3, 999)}, 0, 1, 2, 2);

        doc.says("Promise 23", "NONE: no such ones.");
        Due.span("place", 0, 3, -1, p -> house.components(p, 0));
        Due.row("sold, ended", new int[] {house.components(-3, 10), house.components(-4, 20),
            new PackTracer().components(0, 0)}, -1, -1, -1);
        Due.span("h", 0, 999, -1, h -> house.components(0, h));
    }

    private void dwelt() {
        doc.says("Promise 24", "HOURS that a THING was at a PLACE (-3: SOLD) by its TRAIL: "
            + "from each of its HOURS there to the next one of it, the last one to the latest HOUR of all MESSAGES;");
        Due.row("unit 1", new int[] {house.dwelt(1, 0), house.dwelt(1, 1), house.dwelt(1, 2), house.dwelt(1, 3),
            house.dwelt(1, -3)}, 7, 15, 18, 0, 0);
        Due.row("unit 2, which ended", new int[] {house.dwelt(2, 0), house.dwelt(2, 1), house.dwelt(2, 2)}, 7, 5, 8);
        Due.row("pallet 20", new int[] {house.dwelt(20, 0), house.dwelt(20, 1), house.dwelt(20, -3), house.dwelt(20, 3)}, 7,
            3, 15, 15);
        Due.row("unit 5, made late", new int[] {house.dwelt(5, 3), house.dwelt(5, 0)}, 12, 0);
        Due.row("none such was made", new int[] {house.dwelt(0, 0), house.dwelt(39, -3)}, 0, 0);
        // The latest hour is that of any message, a refused one, too; a sale is left, and one goes on.
        PackTracer x = Due.traced("place a;at 999 end 9;at 100 make 1 unit a;at 200 sell 1;at 300 back 1 a;at 400 sell 1;"
            + "at 100 make 2 unit a;at 500 sell 2;at 600 end 2;");
        Due.row("to the latest hour", new int[] {x.dwelt(1, 0), x.dwelt(1, -3), x.dwelt(2, 0), x.dwelt(2, -3)}, 200, 699, 400,
            100);
        Due.is("made at the latest hour", Due.traced("place a;at 7 make 1 unit a;").dwelt(1, 0), 0);
        Due.is("made at hour 0, the latest one", Due.traced("place a;at 0 make 1 unit a;").dwelt(1, 0), 0);

        doc.says("Promise 24", "NONE: no such ones.");
        Due.span("number", 0, 39, -1, n -> house.dwelt(n, 0));
        Due.span("place", 0, 3, -1, p -> house.dwelt(1, p));
        Due.row("other places", new int[] {house.dwelt(1, -1), house.dwelt(1, -2), house.dwelt(1, -4), house.dwelt(1, -5),
            new PackTracer().dwelt(0, 0), new PackTracer().dwelt(0, -3)},
            -1, -1, -1, -1, -1, 0);
    }

    private void flow() {
        doc.says("Promise 25", "How often PLACE b (-3, -4, too) follows PLACE a (-3, too) at once, in TRAILS of all THINGS;");
        Due.row("of the house", new int[] {house.flow(0, 1), house.flow(1, 2), house.flow(2, 1), house.flow(1, -3),
            house.flow(-3, 3), house.flow(2, -4)}, 4, 3, 1, 1, 1, 1);
        Due.row("not at once", new int[] {house.flow(0, 2), house.flow(1, 3), house.flow(0, -3), house.flow(0, -4),
            house.flow(1, 0), house.flow(-3, -4)}, 0, 0, 0, 0, 0, 0);
        PackTracer x = Due.traced("place a;place b;at 0 make 1 unit a;at 0 make 2 carton a;at 1 pack 1 2;at 2 sell 2;"
            + "at 3 back 2 a;at 4 sell 2;at 5 back 2 b;at 6 sell 2;at 7 end 2;");
        Due.row("more than once", new int[] {x.flow(0, -3), x.flow(-3, 0), x.flow(-3, 1), x.flow(1, -3), x.flow(-3, -4),
            x.flow(1, -4)}, 4, 2, 2, 2, 2, 0);

        doc.says("Promise 25", "NONE: no such ones, one and the same.");
        for (int p = 0; p < 4; p++) {
            Due.is("one and the same", house.flow(p, p), -1);
        }
        Due.row("one and the same", new int[] {house.flow(-3, -3), house.flow(-4, -4)}, -1, -1);
        Due.span("a", 0, 3, -1, a -> house.flow(a, -4));
        Due.span("b", 0, 3, -1, b -> house.flow(-3, b));
        Due.row("other places", new int[] {house.flow(-4, 0), house.flow(-4, -3), house.flow(-1, 0), house.flow(-2, 0),
            house.flow(-5, 0), house.flow(0, -1), house.flow(0, -2),
            house.flow(0, -5), new PackTracer().flow(0, 1), new PackTracer().flow(-3, -4)}, -1, -1, -1, -1, -1, -1, -1, -1,
                -1, 0);
    }
}
