import java.util.List;

/** Promises 1 to 6 and 36: a new object, the tape, texts and tells, their faults, ways, counts. */
final class TapeEdges {
    private static final String SOME = "place a;place b;place c;road a b 3;fits 2 3;at 1 make 1 unit a;at 1 make 2 carton a;"
        + "at 2 pack 1 2;at 9 move 2 b;at 5 scan 1 c;at 14 sell 2;";
    private static final int SPACES = 0x20202020;

    private final Sentences doc;

    TapeEdges(Sentences doc) {
        this.doc = doc;
    }

    void run() {
        newObject();
        feed();
        text();
        tell();
        fault();
        hours();
        count();
    }

    private void newObject() {
        doc.says("Promise 1", "No PLACES, no MESSAGES; an empty TAPE.");
        PackTracer x = new PackTracer();
        Due.row("counts", new int[] {x.count(0), x.count(1), x.count(2), x.count(3), x.count(4), x.count(5), x.count(6)},
            0, 0, 0, 0, 10, 10, 0);
        Due.is("no place 0", x.hours(0, 0), -1);
        Due.is("no message 0", Due.message(x, 0, 0), Due.INDEX);
        Due.is("nothing made", x.many(999, 0), 0);
        Due.is("text(1)", x.text(1), -2);
        Due.is("the first twenty bytes", x.feed(0, 0, 0, 0, 0), 20);
        // Two objects have nothing in common.
        PackTracer other = Due.traced(SOME);
        Due.is("the other has messages", other.count(2), 6);
        Due.is("the one has none", x.count(2), 0);
    }

    private void feed() {
        doc.says("Promise 2", "Twenty bytes come behind the TAPE, four of each number, the highest first: how many it has;");
        PackTracer x = new PackTracer();
        // "place abc" "def;road" with each byte at its own place in its number.
        Due.is("feed", x.feed(0x706c6163, 0x65206162, 0x63646566, 0x3b706c61, 0x63652062), 20);
        Due.is("feed behind it", x.feed(0x3b617420, 0x30206d61, 0x6b652031, 0x20756e69, 0x7420623b), 40);
        Due.is("three lines", x.text(40), 3);
        Due.is("the unit is at b", x.thing(1, 0, 3), 1);
        int[] where = {0x3f202020, 0x203f2020, 0x20203f20, 0x2020203f};
        for (int number = 0; number < 5; number++) {
            for (int b = 0; b < 4; b++) {
                int[] a = {SPACES, SPACES, SPACES, SPACES, SPACES};
                a[number] = where[b];
                x.feed(a[0], a[1], a[2], a[3], a[4]);
                Due.is("a sign that is none", x.text(20), -1);
                Due.is("its place", x.fault(1), 4 * number + b);
            }
        }
        x.feed(0x706c6163, 0x652061ff, SPACES, SPACES, SPACES);
        x.text(20);
        Due.is("a lowest byte of 255", x.fault(1), 7);
        x.feed(0xff202020, SPACES, SPACES, SPACES, SPACES);
        x.text(20);
        Due.is("a highest byte of 255", x.fault(1), 0);

        doc.says("Promise 2", "NONE, and none come, if it would have more than 900.");
        x = new PackTracer();
        x.feed(0x706c6163, 0x6520613b, SPACES, SPACES, SPACES);
        for (int i = 2; i <= 45; i++) {
            Due.is("feed " + i, x.feed(SPACES, SPACES, SPACES, SPACES, SPACES), 20 * i);
        }
        for (int i = 0; i < 3; i++) {
            Due.is("feed beyond 900", x.feed(0x3f3f3f3f, 0x3f3f3f3f, 0x3f3f3f3f, 0x3f3f3f3f, 0x3f3f3f3f), -1);
            Due.is("none come", x.count(6), 900);
        }
        Due.is("the tape is as it was", x.text(900), 1);
        Due.is("room again", x.feed(0, 0, 0, 0, 0), 20);
    }

    private void text() {
        doc.says("Promise 3", "The TAPE's first n bytes (it is empty then) are the TEXT (all anew): how many LINES;");
        PackTracer x = new PackTracer();
        Due.feed(x, Due.bytes("place a;place b;place a;"));
        Due.is("the first 16 of 40 bytes", x.text(16), 2);
        Due.is("the tape is empty then", x.count(6), 0);
        Due.is("text(1)", x.text(1), -2);
        // A word or a number goes no further than the text, whatever stands behind it on the tape.
        String longer = "place abcdef;place abc;at 123 end 39;";
        int[] cuts = {6, 7, 10, 12, 22, 26, 27, 28, 34, 35, 36};
        for (int cut : cuts) {
            Due.feed(x, Due.bytes(longer));
            Due.is("cut at " + cut, x.text(cut), -1);
            Due.row("its fault", new int[] {x.fault(0), x.fault(1)}, 1, cut);
        }
        Due.feed(x, Due.bytes("place abcdefghi;"));
        Due.row("six letters of nine", new int[] {x.text(12), x.fault(0), x.fault(1)}, -1, 1, 12);
        Due.feed(x, Due.bytes("at 0 end 399;"));
        Due.row("39 of 399", new int[] {x.text(11), x.fault(0), x.fault(1)}, -1, 1, 11);
        Due.feed(x, Due.bytes("place a;"));
        Due.is("all of the tape", x.text(20), 1);
        Due.feed(x, Due.bytes("place a;"));
        Due.is("none of the tape", x.text(0), 0);
        Due.is("the tape is empty then", x.count(6), 0);
        Due.is("no places any more", x.count(0), 0);
        Due.is("of an empty tape", x.text(0), 0);
        x = Due.traced(SOME);
        Due.is("all anew", Due.text(x, "place b;place d;"), 2);
        Due.row("what was is gone", new int[] {x.count(0), x.count(1), x.count(2), x.count(3), x.count(4), x.count(5),
            x.hours(0, 1), x.many(999, 0), x.refused(-1), x.blamed(0)}, 2, 0, 0, 0, 10, 10, -2, 0, 0, -2);
        Due.is("fits may be told, and an old name", Due.text(x, "place a;place c;road a c 9;fits 5 6;"), 4);
        Due.row("anew", new int[] {x.count(0), x.count(1), x.count(4), x.count(5), x.hours(0, 1)}, 2, 1, 5, 6, 9);

        doc.says("Promise 3", "NONE with a FAULT, all else stays;");
        x = Due.traced(SOME);
        List<Integer> before = Due.everything(x);
        String[] faults = {"?", "place a;place a;", "place q;road q q 1;", "fits 3 3;fits 3 3;", "place z;road a b 3;",
            "at 0 end 1;at 0 end 40;",
            "place x;place y;road x y 7;fits 9 9;at 0 make 5 unit x;at 1 end 5;place"};
        for (String fault : faults) {
            Due.is("text(" + fault + ")", Due.text(x, fault), -1);
            Due.is("all else stays", Due.everything(x).equals(before) ? 1 : 0, 1);
            Due.is("the tape is empty then", x.count(6), 0);
        }
        Due.is("names stay, too", Due.tell(x, "at 20 back 2 c;"), 1);
        Due.is("names of the fault do not come", Due.tell(x, "at 21 move 2 x;"), -1);

        doc.says("Promise 3", "-2, and the TAPE stays: there are not so many, n is below 0.");
        x = Due.traced(SOME);
        before = Due.everything(x);
        int[] wrong = {1, 20, 901, Due.GREATEST, -1, Due.LEAST};
        for (int n : wrong) {
            Due.is("text(" + n + ") of an empty tape", x.text(n), -2);
        }
        x.feed(0x706c6163, 0x6520783b, SPACES, SPACES, SPACES);
        for (int n : new int[] {21, 901, Due.GREATEST, -1, -20, Due.LEAST}) {
            Due.is("text(" + n + ") of 20 bytes", x.text(n), -2);
            Due.is("the tape stays", x.count(6), 20);
            Due.is("all else stays", Due.everything(x).equals(before) ? 1 : 0, 1);
        }
        Due.is("as it was", x.text(20), 1);
    }

    private void tell() {
        doc.says("Promise 4", "The TAPE's first n bytes (it is empty then) are a TEXT of MESSAGES alone (another LINE: "
            + "FAULT 1 at its word), "
            + "which come behind those there are: how many LINES;");
        PackTracer x = Due.traced(SOME);
        Due.feed(x, Due.bytes("at 3 make 4 unit c;at 0 end 4;?"));
        Due.is("the first 30 of 40 bytes", x.tell(30), 2);
        Due.is("the tape is empty then", x.count(6), 0);
        Due.row("they come behind", new int[] {x.count(2), x.message(6, 0), x.message(7, 0), x.message(0, 2)}, 8, 3, 0, 1);
        Due.is("of nothing", Due.tell(x, ""), 0);
        Due.is("of blanks", Due.tell(x, " \n"), 0);
        Due.feed(x, Due.bytes("at 3 end 4;"));
        Due.is("none of the tape", x.tell(0), 0);
        Due.is("it is empty then", x.count(6), 0);
        Due.is("none came", x.count(2), 8);
        String[] lines = {"place d;", "place a;", "road a b 1;", "fits 1 1;", "place", "road", "fits"};
        for (String line : lines) {
            Due.is("tell(" + line + ")", Due.tell(x, line), -1);
            Due.row("its fault", new int[] {x.fault(0), x.fault(1)}, 1, 0);
            Due.is("tell of it behind a message", Due.tell(x, "at 7 end 1; " + line), -1);
            Due.row("its fault", new int[] {x.fault(0), x.fault(1)}, 1, 12);
        }
        Due.is("to a new object", Due.tell(new PackTracer(), "at 7 end 1;at 8 free 2;"), 2);
        Due.is("of a place to a new object", Due.tell(new PackTracer(), "at 7 move 1 a;"), -1);
        // Looked at among all others by its hour, and what is to blame is found anew.
        x = Due.traced("place a;at 5 make 1 unit a;at 7 free 1;");
        Due.row("to blame", new int[] {x.blamed(0), x.twoBlamed(1), x.twoBlamed(2)}, 1, 1, 0);
        Due.is("a late one", Due.tell(x, "at 6 make 1 unit a;"), 1);
        Due.verdicts(x, "a late one", 0, 0, 1);
        Due.row("to blame", new int[] {x.blamed(0), x.blamed(1), x.twoBlamed(0), x.twoBlamed(1), x.twoBlamed(2)}, 0, 1, 0, 1, 0);
        Due.is("two more", Due.tell(x, "at 1 end 3;at 2 end 3;"), 2);
        Due.row("to blame", new int[] {x.blamed(0), x.blamed(1), x.twoBlamed(0), x.twoBlamed(1), x.twoBlamed(2)}, 3, 2, 3, 4, 1);

        doc.says("Promise 4", "NONE with a FAULT, all else stays (none of it comes);");
        x = Due.traced(SOME);
        List<Integer> before = Due.everything(x);
        String[] faults = {"?", "at 0 end 1;at 0 end 40;", "at 0 make 3 unit a;at 1 end 3", "at 0 make 3 unit a;place d;",
            "at 0 move 1 nowhe;"};
        for (String fault : faults) {
            Due.is("tell(" + fault + ")", Due.tell(x, fault), -1);
            Due.is("all else stays", Due.everything(x).equals(before) ? 1 : 0, 1);
            Due.is("the tape is empty then", x.count(6), 0);
        }

        doc.says("Promise 4", "-2, and the TAPE stays: there are not so many, n is below 0.");
        for (int n : new int[] {1, 901, Due.GREATEST, -1, Due.LEAST}) {
            Due.is("tell(" + n + ") of an empty tape", x.tell(n), -2);
        }
        Due.feed(x, Due.bytes("at 0 end 1;"));
        for (int n : new int[] {21, 901, Due.GREATEST, -1, -11, Due.LEAST}) {
            Due.is("tell(" + n + ") of 20 bytes", x.tell(n), -2);
            Due.is("the tape stays", x.count(6), 20);
            Due.is("all else stays", Due.everything(x).equals(before) ? 1 : 0, 1);
        }
        Due.is("as it was", x.tell(20), 1);
    }

    private void fault() {
        doc.says("Promise 5", "Of the latest text(), tell() that was not -2, what 0: its FAULT (0), 1: "
            + "its place (NONE without).");
        PackTracer x = new PackTracer();
        Due.text(x, "place a;place a;");
        Due.row("of text", new int[] {x.fault(0), x.fault(1)}, 3, 14);
        Due.is("-2", x.text(1), -2);
        Due.is("-2", x.tell(-1), -2);
        Due.row("a -2 leaves it", new int[] {x.fault(0), x.fault(1)}, 3, 14);
        Due.tell(x, "at 1000 end 1;");
        Due.row("of tell", new int[] {x.fault(0), x.fault(1)}, 2, 3);
        Due.tell(x, "at 100 end 1;");
        Due.row("of a sound tell", new int[] {x.fault(0), x.fault(1)}, 0, -1);
        Due.text(x, "?");
        Due.row("of text at its first byte", new int[] {x.fault(0), x.fault(1)}, 1, 0);
        Due.text(x, "");
        Due.row("of a sound text", new int[] {x.fault(0), x.fault(1)}, 0, -1);
        x.tell(1);
        Due.row("a -2 leaves that, too", new int[] {x.fault(0), x.fault(1)}, 0, -1);
        Due.text(x, "place");
        Due.feed(x, Due.bytes("place"));
        Due.row("feed leaves it", new int[] {x.fault(0), x.fault(1)}, 1, 5);

        doc.says("Promise 5", "NONE for another what; ahead of any 0 and NONE.");
        for (int what : new int[] {-1, 2, 3, Due.LEAST, Due.GREATEST}) {
            Due.is("fault(" + what + ")", x.fault(what), -1);
            Due.is("fault(" + what + ") of a new object", new PackTracer().fault(what), -1);
        }
        x = new PackTracer();
        Due.row("ahead of any", new int[] {x.fault(0), x.fault(1)}, 0, -1);
        x.text(1);
        x.tell(-1);
        Due.row("ahead of any that was not -2", new int[] {x.fault(0), x.fault(1)}, 0, -1);
    }

    private void hours() {
        PackTracer x = Due.traced("place a;place b;place c;place d;place e;place f;place g;place h;"
            + "road a b 9;road b c 9;road a c 20;road c d 99;road d e 99;road e f 99;road f a 99;");
        doc.says("Promise 6", "HOURS of the shortest way between two PLACES (0 of one and the same);");
        Due.row("over another", new int[] {x.hours(0, 2), x.hours(2, 0)}, 18, 18);
        Due.row("round about", new int[] {x.hours(0, 3), x.hours(3, 0), x.hours(1, 4), x.hours(4, 2)}, 117, 117, 207, 198);
        for (int p = 0; p < 8; p++) {
            Due.is("to itself", x.hours(p, p), 0);
        }
        for (int over = 0; over < 3; over++) {
            // Three places in a row, the one in the middle told first, second, third.
            String[] order = {"b a c", "a b c", "a c b"};
            String[] names = order[over].split(" ");
            x = Due.traced("place " + names[0] + ";place " + names[1] + ";place " + names[2] + ";road a b 4;road b c 5;");
            Due.row("over place " + over, new int[] {x.hours((over + 1) % 3, (over + 2) % 3),
                x.hours((over + 2) % 3, (over + 1) % 3)}, 9, 9);
        }
        x = Due.traced("place a;place b;place c;place d;place e;place f;place g;place h;"
            + "road h g 99;road g f 99;road f e 99;road e d 99;road d c 99;road c b 99;road b a 99;");
        Due.row("the longest", new int[] {x.hours(0, 7), x.hours(7, 0)}, 693, 693);

        doc.says("Promise 6", "-2: there is no way;");
        x = Due.traced("place a;place b;place c;place d;road a b 1;road c d 1;");
        Due.row("two lands", new int[] {x.hours(0, 2), x.hours(3, 1), x.hours(0, 3)}, -2, -2, -2);

        doc.says("Promise 6", "NONE: no such ones.");
        PackTracer y = x;
        Due.span("hours of a first", 0, 3, -1, a -> y.hours(a, 0));
        Due.span("hours of a second", 0, 3, -1, b -> y.hours(0, b));
        Due.row("neither", new int[] {x.hours(4, 4), x.hours(-1, -1), x.hours(-3, -3)}, -1, -1, -1);
        Due.is("without any place", new PackTracer().hours(0, 0), -1);
    }

    private void count() {
        doc.says("Promise 36", "0 PLACES, 1 roads, 2 MESSAGES, 3 how many are LATE, 4 units a carton holds, 5 cartons a pallet, "
            + "6 bytes of the TAPE.");
        PackTracer x = Due.traced("place a;place b;place c;road a b 1;road a b 1;fits 3 4;"
            + "at 5 end 1;at 5 end 1;at 4 end 1;at 6 end 1;at 5 end 1;at 999 end 1;at 998 end 1;");
        Due.row("counts", new int[] {x.count(0), x.count(1), x.count(2), x.count(3), x.count(4), x.count(5), x.count(6)},
            3, 2, 7, 3, 3, 4, 0);
        x.feed(0, 0, 0, 0, 0);
        Due.is("bytes", x.count(6), 20);

        doc.says("Promise 36", "NONE for another what.");
        for (int what : new int[] {-1, -2, 7, 8, Due.LEAST, Due.GREATEST}) {
            Due.is("count(" + what + ")", x.count(what), -1);
        }
    }
}
