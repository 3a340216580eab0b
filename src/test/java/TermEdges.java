import java.util.List;

/** The first lines of the document and its "Terms": the text, and its faults. */
final class TermEdges {
    private static final String LANGUAGE =
        "place road fits at make unit carton pallet pack out open seal move scan sell back end free";
    private static final String ACTS = "make pack out open seal move scan sell back end free";
    private static final String AB = "place a;place b;";
    private static final int N = AB.length();

    private final Sentences doc;

    TermEdges(Sentences doc) {
        this.doc = doc;
    }

    void run() {
        lastCall();
        lines();
        words();
        numbers();
        blanks();
        places();
        roads();
        fits();
        messages();
        firstFault();
        noTokens();
        misplaced();
        tooMuch();
        toldAlready();
    }

    private void lastCall() {
        doc.says("1", "An object is used for at most 512 calls after it has been made; what later calls answer is free.");
        PackTracer x = new PackTracer();
        int calls = 0;
        for (int round = 0; round < 11; round++) {
            for (int i = 0; i < 45; i++) {
                Due.is("feed as call " + calls, x.feed(0x20202020, 0x0a0a0a0a, 0x20202020, 0x20202020, 0x20202020), 20 * i + 20);
                calls++;
            }
            Due.is("text(900) as call " + calls, x.text(900), 0);
            calls++;
        }
        // 506 calls are over: three more of feed, text, and two questions are the last six.
        Due.feed(x, Due.bytes("place a;place b;road a b 7;at 3 make 1 unit b;"));
        calls += 3;
        Due.is("text as call 509", x.text(46), 4);
        Due.is("soonest as call 510", x.soonest(1, 5, 0), 10);
        Due.is("twoBlamed as call 511", x.twoBlamed(0), -2);
        Due.is("calls", calls + 3, 512);
    }

    private void lines() {
        doc.says("Terms", "A TEXT: { LINE ';' }.");
        Due.sound("", 0);
        Due.sound("place a;", 1);
        Due.sound("place a;place b;place c;", 3);
        Due.fault(";", 1, 0);
        Due.fault("place a;;", 1, 8);
        Due.fault("place a place b;", 1, 8);
        Due.fault("place a", 1, 7);
        Due.fault("place a;place b", 1, 15);

        doc.says("Terms", "LINE: place W | road W W N | fits N N | at N make N KIND W | at N ACT. KIND: unit | carton | pallet. "
            + "ACT: pack N N | out N | open N | seal N | move N W | scan N W | sell N | back N W | end N | free N.");
        PackTracer x = Due.sound(AB + "road a b 1;fits 1 2;at 0 make 0 unit a;at 1 make 1 carton b;at 2 make 2 pallet a;"
            + "at 3 pack 3 4;"
            + "at 4 out 5;at 5 open 6;at 6 seal 7;at 7 move 8 b;at 8 scan 9 b;at 9 sell 10;at 10 back 11 b;at 11 end 12;"
                + "at 12 free 13;", 17);
        Due.row("kinds", new int[] {x.thing(0, 999, 0), x.thing(1, 999, 0), x.thing(2, 999, 0)}, 0, 1, 2);
        int[] acts = {0, 0, 0, 1, 2, 3, 4, 5, 6, 7, 8, 9, 10};
        int[] firsts = {0, 1, 2, 3, 5, 6, 7, 8, 9, 10, 11, 12, 13};
        int[] seconds = {0, 1, 0, 4, -2, -2, -2, 1, 1, -2, 1, -2, -2};
        for (int k = 0; k < acts.length; k++) {
            Due.row("message " + k, new int[] {x.message(k, 0), x.message(k, 1), x.message(k, 2), x.message(k, 3)},
                k, acts[k], firsts[k], seconds[k]);
        }
        // One token more than a line has.
        String[] whole = {"place c", "road a b 1", "fits 1 2", "at 0 make 0 unit a", "at 3 pack 3 4", "at 4 out 5", "at 5 open 6",
            "at 6 seal 7", "at 7 move 8 b", "at 8 scan 9 b", "at 9 sell 10", "at 10 back 11 b", "at 11 end 12", "at 12 free 13"};
        for (String line : whole) {
            Due.sound(AB + line + ";", 3);
            String[] more = {"1", "a", "unit", "at"};
            for (String token : more) {
                Due.fault(AB + line + " " + token + ";", 1, N + line.length() + 1);
            }
        }
    }

    private void words() {
        doc.says("Terms", "W: a word, a .. z, of 1 .. 6 letters,");
        for (char c = 'a'; c <= 'z'; c++) {
            Due.sound("place " + c + ";", 1);
            Due.sound("place " + ("" + c).repeat(6) + ";", 1);
            Due.fault("place " + ("" + c).repeat(7) + ";", 1, 6);
        }
        Due.fault("place ;", 1, 6);
        char[] others = {'`', '{', 'A', 'Z', '@', '[', '_', '-', (char) 223, (char) 225, (char) 250};
        for (char c : others) {
            Due.fault("place " + c + ";", 1, 6);
            Due.fault("place a" + c + ";", 1, 7);
        }
        // Words are told apart by each of their letters, and by how many they are.
        PackTracer x = Due.sound("place abcdef;place abcdeg;place bbcdef;place abcde;place a;place aa;place aaa;place z;", 8);
        Due.tell(x, "at 0 make 0 unit abcdef;at 0 make 1 unit abcdeg;at 0 make 2 unit bbcdef;at 0 make 3 unit abcde;"
            + "at 0 make 4 unit a;at 0 make 5 unit aa;at 0 make 6 unit aaa;at 0 make 7 unit z;");
        for (int n = 0; n < 8; n++) {
            Due.is("place of the word " + n, x.thing(n, 0, 3), n);
        }

        doc.says("Terms", "none of the language's (place, road, fits, at, make, unit, carton, pallet, pack, out, open, seal, "
            + "move, scan, "
            + "sell, back, end, free).");
        List<String> language = List.of(LANGUAGE.split(" "));
        for (String word : language) {
            Due.fault("place " + word + ";", 1, 6);
            Due.fault(AB + "road a " + word + " 1;", 1, N + 7);
            Due.fault(AB + "at 0 move 1 " + word + ";", 1, N + 12);
            String less = word.substring(0, word.length() - 1);
            String[] near = {less, word.substring(1), word + "s", "x" + word};
            for (String other : near) {
                if (other.length() <= 6 && !language.contains(other)) {
                    Due.sound("place " + other + ";at 0 move 1 " + other + ";", 2);
                }
            }
        }
    }

    private void numbers() {
        doc.says("Terms", "N: digits.");
        for (int hour = 0; hour < 10; hour++) {
            Due.is("a digit", Due.sound("at " + hour + " end 1;", 1).message(0, 0), hour);
        }
        Due.is("noughts ahead", Due.sound("at 007 end 0000000000000000000039;", 1).message(0, 2), 39);
        Due.is("as many noughts as there is room for", Due.sound("at " + "0".repeat(889) + "7 end 1;", 1).message(0, 0), 7);
        Due.fault("at -1 end 1;", 1, 3);
        Due.fault("at +1 end 1;", 1, 3);
        Due.fault("at 1.5 end 1;", 1, 4);
        Due.fault("at 1 5 end 1;", 1, 5);
        Due.fault("at 0 end /;", 1, 9);
        Due.fault("at 0 end :;", 1, 9);
        Due.fault("at end 1;", 1, 3);
    }

    private void blanks() {
        doc.says("Terms", "Blanks 10, 32.");
        for (int b = 0; b < 256; b++) {
            char c = (char) b;
            if (b == 10 || b == 32) {
                Due.sound(c + "place" + c + c + "a" + c + ";" + c, 1);
                Due.sound("" + c, 0);
            } else {
                Due.fault("place a;" + c, 1, 8);
                if (!Character.isDigit(c)) {
                    Due.fault("at 0" + c + "end 1;", 1, 4);
                }
            }
        }
        Due.sound("place a;" + " ".repeat(892), 1);
        Due.sound("\n".repeat(892) + "place a;", 1);
        Due.fault("place" + " \n".repeat(447) + ";", 1, 899);
    }

    private static String eightPlaces() {
        StringBuilder eight = new StringBuilder();
        for (char c = 'a'; c < 'i'; c++) {
            eight.append("place ").append(c).append(';');
        }
        return eight.toString();
    }

    private void places() {
        doc.says("Terms", "place, at most 8, numbered from 0 on.");
        PackTracer x = Due.sound(eightPlaces(), 8);
        Due.is("eight places", x.count(0), 8);
        for (char c = 'a'; c < 'i'; c++) {
            Due.tell(x, "at 0 make " + (c - 'a') + " unit " + c + ";");
            Due.is("the place " + c, x.thing(c - 'a', 0, 3), c - 'a');
        }
        Due.is("the last place", x.hours(7, 7), 0);
        Due.is("no ninth", x.hours(8, 8), -1);
        Due.fault(eightPlaces() + "place i;", 2, 64);
    }

    private static String roadsOf(int many) {
        StringBuilder roads = new StringBuilder(AB);
        for (int r = 0; r < many; r++) {
            roads.append("road a b ").append(20 - r).append(';');
        }
        return roads.toString();
    }

    private void roads() {
        doc.says("Terms", "road, at most 12: HOURS 1 .. 99 between two PLACES told ahead, "
            + "either way (of several of two the fewest count).");
        Due.is("twelve roads", Due.sound(roadsOf(12), 14).count(1), 12);
        Due.is("the twelfth counts", Due.traced(roadsOf(12)).hours(0, 1), 9);
        Due.fault(roadsOf(12) + "road a b 1;", 2, roadsOf(12).length());
        PackTracer x = Due.sound(AB + "place c;place d;road a b 1;road c d 99;", 6);
        Due.row("least and greatest, either way", new int[] {x.hours(0, 1), x.hours(1, 0), x.hours(2, 3), x.hours(3, 2)}, 1,
            1, 99, 99);
        Due.fault(AB + "road a b 0;", 2, N + 9);
        Due.fault(AB + "road a b 100;", 2, N + 9);
        Due.fault("road a b 1;" + AB, 1, 5);
        Due.fault("place a;road a b 1;place b;", 1, 15);
        String[] several = {"road a b 9;road a b 4;road a b 7;", "road a b 4;road b a 9;", "road b a 9;road a b 4;",
            "road b a 4;road a b 9;"};
        for (String roads : several) {
            x = Due.traced(AB + roads);
            Due.row(roads, new int[] {x.hours(0, 1), x.hours(1, 0)}, 4, 4);
        }
        // Behind the messages, too: all of the text is told before one is looked at.
        x = Due.traced(AB + "at 0 make 1 unit a;at 4 move 1 b;road a b 5;road a b 4;");
        Due.verdicts(x, "a road behind its messages", 0, 0);
    }

    /** Packs things 0, 1, .. into the last one: the verdict on the one that has this number. */
    private static int verdictOnPack(String fits, String inner, String outer, int number) {
        PackTracer x = Due.traced("place a;at 0 make 39 " + outer + " a;" + fits);
        for (int n = 0; n <= number; n++) {
            Due.tell(x, "at 1 make " + n + " " + inner + " a;at 2 pack " + n + " 39;");
        }
        return Due.message(x, 2 * number + 2, 4);
    }

    private void fits() {
        doc.says("Terms", "fits: how many units a carton holds, 1 .. 20, how many cartons a pallet, 1 .. 20 (10, 10), once.");
        Due.sound("fits 1 20;", 1);
        Due.sound("fits 20 1;", 1);
        Due.fault("fits 0 1;", 2, 5);
        Due.fault("fits 21 1;", 2, 5);
        Due.fault("fits 1 0;", 2, 7);
        Due.fault("fits 1 21;", 2, 7);
        Due.row("usual", new int[] {verdictOnPack("", "unit", "carton", 9), verdictOnPack("", "unit", "carton", 10),
            verdictOnPack("", "carton", "pallet", 9), verdictOnPack("", "carton", "pallet", 10)}, 0, 7, 0, 7);
        Due.row("least", new int[] {verdictOnPack("fits 1 20;", "unit", "carton", 0),
            verdictOnPack("fits 1 20;", "unit", "carton", 1),
            verdictOnPack("fits 20 1;", "carton", "pallet", 0), verdictOnPack("fits 20 1;", "carton", "pallet", 1)}, 0, 7, 0, 7);
        Due.row("greatest", new int[] {verdictOnPack("fits 20 1;", "unit", "carton", 19),
            verdictOnPack("fits 20 1;", "unit", "carton", 20),
            verdictOnPack("fits 1 20;", "carton", "pallet", 19), verdictOnPack("fits 1 20;", "carton", "pallet", 20)}, 0, 7,
                0, 7);
        Due.fault("fits 1 1;fits 1 1;", 3, 9);
    }

    private static String messagesOf(int many) {
        StringBuilder all = new StringBuilder();
        for (int k = 0; k < many; k++) {
            all.append("at ").append(99 - k).append(" end 1;");
        }
        return all.toString();
    }

    private void messages() {
        doc.says("Terms", "at: a MESSAGE: its HOUR 0 .. 999; THINGS have numbers 0 .. 39.");
        PackTracer x = Due.sound("place a;at 0 make 0 unit a;at 999 make 39 carton a;at 999 pack 0 39;at 999 end 0;", 5);
        Due.verdicts(x, "least and greatest", 0, 0, 0, 0);
        Due.row("hours", new int[] {x.message(0, 0), x.message(1, 0)}, 0, 999);
        ends();
        Due.fault("at 1000 end 0;", 2, 3);
        Due.fault("at 0 end 40;", 2, 9);
        Due.fault("at 0 pack 0 40;", 2, 12);
        Due.fault("at 0 pack 40 0;", 2, 10);

        doc.says("Terms", "At most 60 MESSAGES, numbered from 0 on as they come.");
        x = Due.sound(messagesOf(60), 60);
        Due.is("sixty", x.count(2), 60);
        for (int k = 0; k < 60; k++) {
            Due.is("the hour of message " + k, x.message(k, 0), 99 - k);
        }
        Due.is("no message 60", Due.message(x, 60, 0), Due.INDEX);
        Due.fault(messagesOf(61), 2, messagesOf(60).length());
        full();
        x = Due.traced(messagesOf(59));
        Due.is("the sixtieth is told", Due.tell(x, "at 1 end 2;"), 1);
        Due.row("it comes behind", new int[] {x.message(59, 0), x.message(59, 2), x.message(58, 0)}, 1, 2, 41);
    }

    /** Eight places, twelve roads, forty things, sixty messages: every question is answered, the last of each, too. */
    private static void full() {
        PackTracer x = Due.traced(eightPlaces() + "road a b 1;road b c 1;road c d 1;road d e 1;road e f 1;road f g 1;road g h 1;"
            + "road a c 9;road a d 9;road a e 9;road a f 9;road a h 9;fits 20 20;");
        for (int n = 0; n < 40; n++) {
            Due.tell(x, "at 0 make " + n + (n < 20 ? " unit h;" : n < 39 ? " carton h;" : " pallet h;"));
        }
        for (int n = 0; n < 18; n++) {
            Due.tell(x, "at 1 pack " + n + " 20;");
        }
        Due.tell(x, "at 2 pack 20 39;at 999 scan 0 a;");
        Due.row("counts", new int[] {x.count(0), x.count(1), x.count(2), x.count(4), x.count(5)}, 8, 12, 60, 20, 20);
        Due.is("all is answered", Due.everything(x).size() > 0 ? 1 : 0, 1);
        Due.row("the last message", new int[] {x.message(59, 0), x.message(59, 5), x.message(59, 4), x.changed(59), x.cause(59)},
            999, 59, 0, 20, -3);
        Due.row("the last thing", new int[] {x.thing(39, 999, 3), x.thing(39, 999, 8), x.thing(39, 999, 9), x.inside(39, 999, 18),
            x.there(0, 999, 19), x.there(7, 999, 19), x.trail(39, 1, 1), x.met(39, 0, 19), x.wereIn(39, 0, 999, 18), x.most(39),
            x.still(39, 999), x.travelled(39), x.dwelt(39, 7), x.dwelt(39, 0)}, 0, 1, 19, 20, 39, 38, 999, 39, 20, 19, 2, 7, 999, 0);
        Due.row("what would be", new int[] {x.known(60, 39), x.without(59, 39), x.needs(59, 0), x.ifAt(59, 2, -1), x.ifAt(59, 2, 39),
            x.ifSwapped(58, 59, -1), x.window(59, 0), x.window(59, 1), x.window(59, 2)}, 0, 7, 0, 1, 7, 2, 7, 999, 993);
        Due.row("of all", new int[] {x.flow(7, 0), x.components(7, 999), x.lost(999, 999, 0), x.lost(999, 0, 39), x.busy(7, 0),
            x.soonest(39, 999, 7), x.clash(39, 0, 0), x.blamed(1), x.twoBlamed(2), x.refused(0)},
            20, 20, 18, 39, 40, 1006, -2, 0, 0, 60);
    }

    /** Things 0 and 39 are things like others: in each other, around each other, quarantined, sold, ended. */
    private static void ends() {
        int[][] numbers = {{0, 39}, {39, 0}};
        for (int[] two : numbers) {
            String u = " " + two[0];
            String c = " " + two[1];
            PackTracer x = Due.traced(AB + "road a b 5;at 0 make" + u + " unit a;at 0 make" + c + " carton a;at 1 pack" + u
                + c + ";at 1 pack" + u + c + ";at 1 out" + c + ";"
                + "at 1 move" + u + " b;at 1 sell" + u + ";at 2 scan" + u + " b;at 2 sell" + c + ";at 3 free" + u
                    + ";at 4 sell" + c + ";at 5 back" + u + " a;at 5 back" + c + " b;"
                + "at 6 open" + c + ";at 11 scan" + u + " a;at 12 out" + u + ";at 13 move" + u + " a;at 13 seal" + c + ";");
            Due.verdicts(x, "two things", 0, 0, 0, 5, 5, 9, 9, 10, 11, 0, 0, 6, 0, 0, 0, 5, 0, 0);
            int unit = two[0];
            int carton = two[1];
            Due.row("by 1", new int[] {x.thing(unit, 1, 1), x.thing(unit, 1, 2), x.thing(carton, 1, 9),
                x.inside(carton, 1, 0), x.components(0, 1), x.components(0, 0), x.many(1, 4)},
                carton, carton, 1, unit, 1, 2, 1);
            Due.row("by 2", new int[] {x.thing(unit, 2, 5), x.many(2, 3), x.clash(unit, 0, 2)}, 1, 1, 7);
            Due.row("by 6", new int[] {x.components(1, 5), x.components(1, 6), x.there(1, 6, 0), x.there(1, 6, 1)}, 1, 2, 0, 39);
            Due.row("by 11", new int[] {x.thing(unit, 11, 1), x.thing(unit, 11, 3), x.thing(carton, 11, 3)}, -5, 0, 1);
            Due.row("together", new int[] {x.met(unit, 0, 0), x.met(unit, 0, 1), x.met(carton, 0, 0), x.met(carton, 0, 1),
                x.wereIn(carton, 0, 999, 0), x.most(carton)}, 0, 39, 0, 39, unit, 1);
            Due.row("changed", new int[] {x.changed(0), x.changed(10), x.changed(12), x.flow(0, -3), x.flow(-3, 1),
                x.flow(1, 0)}, 1, 2, 2, 2, 2, 1);
            x = Due.traced("place a;at 0 make" + u + " unit a;at 0 make" + c + " carton a;at 1 pack" + u + c + ";at 2 end" + u
                + ";");
            Due.row("open as it ended", new int[] {x.thing(carton, 1, 4), x.thing(carton, 2, 4), x.thing(carton, 2, 9)}, 0, 1, 0);
            x = Due.traced("place a;at 0 make" + u + " unit a;at 0 make" + c + " carton a;at 1 pack" + u + c + ";at 2 out" + u
                + ";");
            Due.row("open as it came out", new int[] {x.thing(carton, 1, 4), x.thing(carton, 2, 4), x.thing(carton, 2, 9)}, 0,
                1, 0);
            x = Due.traced("place a;at 0 make" + u + " unit a;at 0 make" + c + " carton a;at 1 pack" + u + c + ";at 2 end" + c
                + ";");
            PackTracer y = Due.traced(AB + "road a b 5;at 0 make" + u + " unit a;at 0 make" + c + " carton a;at 1 pack" + u + c
                + ";at 9 scan" + u + " b;");
            Due.row("sealed together", new int[] {y.thing(unit, 9, 1), y.thing(unit, 9, 3), y.thing(carton, 9, 3)}, carton, 1, 1);
            Due.row("ended together", new int[] {x.many(2, 2), x.there(-4, 2, 0), x.there(-4, 2, 1)}, 2, 0, 39);
        }
    }

    private void firstFault() {
        doc.says("Terms", "FAULTS, the first along the text (of one byte the least number), with its place:");
        Due.fault("fits 21 1;$", 2, 5);
        Due.fault("$fits 21 1;", 1, 0);
        Due.fault("fits 1 1;fits 0 0;place a;place a;", 3, 9);
        Due.fault("place a;place a;fits 0 0;", 3, 14);
        Due.fault(AB + "road a a 0;", 3, N + 7);
        Due.fault(AB + "road c c 0;", 1, N + 5);
        Due.fault("at 1000 end 40;", 2, 3);
        Due.fault("at 0 pack 40 99;", 2, 10);
        Due.fault("at 1000 fly;", 2, 3);
        Due.fault("at 0 fly 40;", 1, 5);
        Due.fault(eightPlaces() + "place a;", 2, 64);
        Due.fault(eightPlaces() + "place", 2, 64);
        Due.fault(roadsOf(12) + "road a a 0;", 2, roadsOf(12).length());
        Due.fault(messagesOf(60) + "at x", 2, messagesOf(60).length());
        // Of one byte: a line that tell has not, which is one too many or told already, too.
        String full = eightPlaces() + "fits 1 1;";
        for (int r = 0; r < 12; r++) {
            full += "road a b 1;";
        }
        String[] lines = {"place i;", "road a b 1;", "fits 1 1;"};
        for (String line : lines) {
            PackTracer x = Due.traced(full);
            Due.is("tell(" + line + ")", Due.tell(x, line), -1);
            Due.row("its fault", new int[] {x.fault(0), x.fault(1)}, 1, 0);
        }
    }

    private void noTokens() {
        doc.says("Terms", "1 a TOKEN that is none (a word of more letters, too: at its first)");
        String[] none = {"?", "A", "\t", "\r", "\u0000", "\u0080", "\u00ff", ":", ",", "abcdefg", "pallets",
            "abcdefghijklmnopqrstuvwxyz"};
        for (String token : none) {
            Due.fault(token, 1, 0);
            Due.fault("place " + token + ";", 1, 6);
            Due.fault(AB + "road " + token, 1, N + 5);
            Due.fault("at " + token + " end 1;", 1, 3);
            Due.fault("at 0 " + token + " 1;", 1, 5);
            Due.fault("at 0 end " + token + ";", 1, 9);
            Due.fault("at 0 end 1" + (token.length() > 1 ? " " : "") + token, 1, token.length() > 1 ? 11 : 10);
        }
        Due.fault("placeabc a;", 1, 0);
        Due.fault("place " + "a".repeat(893) + ";", 1, 6);
    }

    /** Each line, cut behind each of its tokens, or with another token there. */
    private void misplaced() {
        doc.says("Terms", "or can't stand there (a W that is no PLACE, but in place; the length, if more must come).");
        String[] forms = {"place c ;", "road a b 5 ;", "fits 3 4 ;", "at 9 make 7 unit a ;", "at 9 pack 7 8 ;", "at 9 out 7 ;",
            "at 9 open 7 ;", "at 9 seal 7 ;", "at 9 move 7 a ;", "at 9 scan 7 a ;", "at 9 sell 7 ;", "at 9 back 7 a ;",
                "at 9 end 7 ;",
            "at 9 free 7 ;"};
        for (String form : forms) {
            Due.sound(AB + form, 3);
            String[] tokens = form.split(" ");
            String ahead = AB;
            for (int t = 0; t < tokens.length; t++) {
                if (t > 0) {
                    Due.fault(ahead, 1, ahead.length());
                    Due.fault(ahead + " \n", 1, ahead.length() + 2);
                }
                for (String other : (LANGUAGE + " nowhere a d 7 ; ?").split(" ")) {
                    if (!mayStand(tokens[t], other, t)) {
                        Due.fault(ahead + other, 1, ahead.length());
                        Due.fault(ahead + other + " 1 a;", 1, ahead.length());
                    }
                }
                ahead += tokens[t] + " ";
            }
        }
        Due.fault(AB + "road nowhe b 1;", 1, N + 5);
        Due.fault(AB + "road a nowhe 1;", 1, N + 7);
        Due.fault("at 0 move 1 a;place a;", 1, 12);
    }

    /** Whether another token may stand for one of a line, the t-th: here a place is told, or it is new, or both are alike. */
    private static boolean mayStand(String token, String other, int t) {
        if (t == 0) {
            return "place road fits at".contains(other) && other.length() > 1;
        }
        if (token.equals("c")) {
            return other.equals("d") || other.equals("a");
        }
        if (token.equals("a") || token.equals("b")) {
            return other.equals("a");
        }
        if (Character.isDigit(token.charAt(0))) {
            return other.equals("7");
        }
        String likes = token.equals("unit") ? "unit carton pallet" : ACTS;
        return token.equals(other) || token.length() > 1 && List.of(likes.split(" ")).contains(other);
    }

    private void tooMuch() {
        doc.says("Terms", "2 too much (at it): a number beyond what is said, a ninth place, a 13th road, a 61st MESSAGE "
            + "(at the word of the LINE).");
        String[] beyond = {"", "0", "00", "9", "99999999999999999999"};
        for (String more : beyond) {
            // 256, 65536, 4294967296 and their like must not come back as small numbers.
            Due.fault(AB + "road a b 100" + more + ";", 2, N + 9);
            Due.fault("fits 21" + more + " 1;", 2, 5);
            Due.fault("fits 1 21" + more + ";", 2, 7);
            Due.fault("at 1000" + more + " end 1;", 2, 3);
            Due.fault("at 0 end 40" + more + ";", 2, 9);
            Due.fault("at 0 pack 1 40" + more + ";", 2, 12);
        }
        String[] wraps = {"256", "257", "65536", "65537", "4294967295", "4294967296", "4294967297", "18446744073709551616",
            "18446744073709551617"};
        for (String number : wraps) {
            Due.fault(AB + "road a b " + number + ";", 2, N + 9);
            Due.fault("fits " + number + " 1;", 2, 5);
            Due.fault("at 0 end " + number + ";", 2, 9);
        }
        for (String number : new String[] {"65536", "65537", "4294967295", "4294967296", "4294967297", "18446744073709551617"}) {
            Due.fault("at " + number + " end 1;", 2, 3);
        }
        Due.fault(" " + eightPlaces() + "\n place i;", 2, 67);
        Due.fault(roadsOf(12) + "  road b a 1;", 2, roadsOf(12).length() + 2);
        Due.fault(messagesOf(60) + "\nat 0 end 1;", 2, messagesOf(60).length() + 1);
        Due.sound(messagesOf(60) + eightPlaces(), 68);
        Due.sound(eightPlaces() + roadsOf(12).substring(N), 20);
        PackTracer x = Due.traced(messagesOf(58));
        Due.is("a 59th, a 60th, a 61st told", Due.tell(x, "at 0 end 1;at 0 end 1;at 0 end 1;"), -1);
        Due.row("their fault", new int[] {x.fault(0), x.fault(1), x.count(2)}, 2, 22, 58);
    }

    private void toldAlready() {
        doc.says("Terms", "3 told already: a PLACE (at its W), fits (at that word);"
            + " a road from a PLACE to itself (at its second W).");
        Due.fault("place abc;place abc;", 3, 16);
        Due.fault("place a;place b;place  a;", 3, 23);
        Due.fault("place a;place a", 3, 14);
        Due.fault("fits 1 1; fits 1 1;", 3, 10);
        Due.fault("fits 10 10;fits 10 10;", 3, 11);
        Due.fault("fits 1 1;fits", 3, 9);
        Due.fault("fits 1 1;at 0 end 1;fits ?", 3, 20);
        Due.fault(AB + "road a  a 1;", 3, N + 8);
        Due.fault(AB + "road b b 1;", 3, N + 7);
        Due.fault(AB + "road b b", 3, N + 7);
        Due.sound(AB + "road a b 1;road b a 1;", 4);
    }
}
