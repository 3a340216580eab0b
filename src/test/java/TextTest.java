/** Promises 1 to 7 and 36: the tape, the text and its faults, what was told. */
public final class TextTest {
    public static void main(String[] args) {
        newObject();
        tape();
        longTexts();
        textReplacesAll();
        faults();
        tooManyLines();
        tellAddsMessages();
        ways();
        messages();
        counts();
        Due.end();
    }

    private static void newObject() {
        PackTracer x = new PackTracer();
        int[] due = {0, 0, 0, 0, 10, 10, 0, -1};
        for (int what = 0; what < due.length; what++) {
            Due.is("new: count(" + what + ")", x.count(what), due[what]);
        }
        Due.is("new: count(-1)", x.count(-1), -1);
        Due.is("new: fault(0)", x.fault(0), 0);
        Due.is("new: fault(1)", x.fault(1), -1);
        Due.is("new: fault(2)", x.fault(2), -1);
        Due.is("new: fault(-1)", x.fault(-1), -1);
        Due.is("new: text(1)", x.text(1), -2);
        Due.is("new: text(0)", x.text(0), 0);
        Due.is("new: tell(0)", x.tell(0), 0);
    }

    private static void tape() {
        PackTracer x = new PackTracer();
        for (int i = 1; i <= 45; i++) {
            Due.is("feed " + i, x.feed(0x20202020, 0, 0, 0, 0), 20 * i);
        }
        Due.is("feed beyond 900", x.feed(1, 2, 3, 4, 5), -1);
        Due.is("tape of 900", x.count(6), 900);
        Due.is("text(901)", x.text(901), -2);
        Due.is("text(-1)", x.text(-1), -2);
        Due.is("tell(901)", x.tell(901), -2);
        Due.is("tell(-1)", x.tell(-1), -2);
        Due.is("the tape stays", x.count(6), 900);
        Due.is("no fault by -2", x.fault(0), 0);
        Due.is("text(4) of blanks", x.text(4), 0);
        Due.is("the tape is empty behind text", x.count(6), 0);
        // The highest byte of each number comes first: "plac" "e ab" ";  " ..
        Due.is("feed in order", x.feed(0x706c6163, 0x65206162, 0x3b0a2020, 0x706c6163, 0x6520633b), 20);
        Due.is("text of two lines", x.text(20), 2);
        Due.is("two places", x.count(0), 2);
        x.feed(-1, 0, 0, 0, 0);
        Due.is("a byte above 127", x.text(20), -1);
        Due.is("its fault", x.fault(0), 1);
        Due.is("its place", x.fault(1), 0);
        Due.is("the tape is empty behind a fault", x.count(6), 0);
        Due.is("all else stays", x.count(0), 2);
        Due.is("text(1) of an empty tape", x.text(1), -2);
        Due.is("the fault stays by -2", x.fault(0), 1);
        x.feed(-1, 0, 0, 0, 0);
        Due.is("tell with a fault", x.tell(1), -1);
        Due.is("the tape is empty behind tell", x.count(6), 0);
    }

    /** Texts that fill the tape. */
    private static void longTexts() {
        Due.fault(";".repeat(900), 1, 0);
        Due.fault("place a" + " ".repeat(893), 1, 900);
        Due.sound("place a;" + "\n".repeat(892), 1);
        Due.sound("at " + "0".repeat(890) + " end 9;", 1);
        Due.sound("place zzzzzz;place zzzzz;", 2);
        Due.fault("at 0 end 1".repeat(80) + "9".repeat(100), 1, 10);
        PackTracer x = new PackTracer();
        Due.feed(x, Due.bytes("place ab"));
        // What stands on the tape behind the text is no part of it.
        Due.is("text(7)", x.text(7), -1);
        Due.is("text(7): the length", x.fault(1), 7);
        Due.text(x, "at 0 end 39;at 0 end 1;");
        Due.feed(x, Due.bytes("at 0 end 39;at 7 end 123;"));
        Due.is("tell(12)", x.tell(12), 1);
        Due.is("three messages", x.count(2), 3);
    }

    private static void textReplacesAll() {
        PackTracer x = Due.traced("place a;place b;road a b 3;fits 2 3;at 0 make 1 unit a;");
        Due.is("first text: hours", x.hours(0, 1), 3);
        Due.is("a fault changes nothing", Due.text(x, "place c;at 0 make 2 unit c;!"), -1);
        Due.is("still two places", x.count(0), 2);
        Due.is("still one message", x.count(2), 1);
        Due.is("still a unit 1", x.thing(1, 0, 0), 0);
        Due.is("still no unit 2", x.thing(2, 0, 0), -2);
        Due.is("second text", Due.text(x, "place b;place a;"), 2);
        Due.is("a fault is over", x.fault(0), 0);
        Due.is("a fault's place is over", x.fault(1), -1);
        Due.is("roads are gone", x.hours(0, 1), -2);
        Due.is("roads are gone, counted", x.count(1), 0);
        Due.is("messages are gone", x.count(2), 0);
        Due.is("fits is the usual again", x.count(4) * 100 + x.count(5), 1010);
        Due.is("things are gone", x.thing(1, 999, 0), -2);
        Due.is("fits can be told again", Due.text(x, "fits 1 2;"), 1);
        Due.is("empty text", Due.text(x, ""), 0);
        Due.is("no places", x.count(0), 0);
    }

    private static void faults() {
        String ab = "place a;place b;";
        int n = ab.length();
        Due.fault(";", 1, 0);
        Due.fault("a;", 1, 0);
        Due.fault("5;", 1, 0);
        Due.fault("make 1 unit a;", 1, 0);
        Due.fault("places a;", 1, 0);
        Due.fault("$", 1, 0);
        Due.fault("\t", 1, 0);
        Due.fault("place", 1, 5);
        Due.fault("place a", 1, 7);
        Due.fault("place a  ", 1, 9);
        Due.fault("place ;", 1, 6);
        Due.fault("place 1;", 1, 6);
        Due.fault("place A;", 1, 6);
        Due.fault("place aB;", 1, 7);
        Due.fault("place a1;", 1, 7);
        Due.fault("place abcdefg;", 1, 6);
        Due.fault("place a b;", 1, 8);
        Due.fault("place a;;", 1, 8);
        for (String word : "place road fits at make unit carton pallet pack out open seal move scan sell back end free"
            .split(" ")) {
            Due.fault("place " + word + ";", 1, 6);
        }
        Due.fault("place abcdef;place abcdef;", 3, 19);
        Due.fault(ab + "road a c 1;", 1, n + 7);
        Due.fault(ab + "road c a 1;", 1, n + 5);
        Due.fault(ab + "road a at 1;", 1, n + 7);
        Due.fault(ab + "road a a 1;", 3, n + 7);
        Due.fault(ab + "road a b;", 1, n + 8);
        Due.fault(ab + "road a b 0;", 2, n + 9);
        Due.fault(ab + "road a b 100;", 2, n + 9);
        Due.fault(ab + "road a b 99999999999999999999;", 2, n + 9);
        Due.fault(ab + "road a b 4294967297;", 2, n + 9);
        Due.fault("road a b 1;place a;place b;", 1, 5);
        Due.fault("fits 0 1;", 2, 5);
        Due.fault("fits 21 1;", 2, 5);
        Due.fault("fits 1 0;", 2, 7);
        Due.fault("fits 1 21;", 2, 7);
        Due.fault("fits 1;", 1, 6);
        Due.fault("fits 1 1;fits", 3, 9);
        Due.fault("fits 1 1;fits 0 0;", 3, 9);
        Due.fault("at 1000 end 1;", 2, 3);
        Due.fault("at a end 1;", 1, 3);
        Due.fault("at 0 end 40;", 2, 9);
        Due.fault("at 0 end a;", 1, 9);
        Due.fault("at 0 end 1", 1, 10);
        Due.fault("at 0 end 1 2;", 1, 11);
        Due.fault("at 0 pack 1;", 1, 11);
        Due.fault("at 0 pack 1 40;", 2, 12);
        Due.fault("at 0 pack 40 99;", 2, 10);
        Due.fault("at 0 unit 1;", 1, 5);
        Due.fault("at 0 at 1;", 1, 5);
        Due.fault("at 0 a 1;", 1, 5);
        Due.fault("at 0;", 1, 4);
        Due.fault(ab + "at 0 make 1 free a;", 1, n + 12);
        Due.fault(ab + "at 0 make 1 a;", 1, n + 12);
        Due.fault(ab + "at 0 make 1 unit c;", 1, n + 17);
        Due.fault(ab + "at 0 make 1 unit;", 1, n + 16);
        Due.fault(ab + "at 0 make 40 fly c;", 2, n + 10);
        Due.fault(ab + "at 0 move 1 c;", 1, n + 12);
        Due.fault(ab + "at 0 scan 1 2;", 1, n + 12);
        Due.fault(ab + "at 0 back 1;", 1, n + 11);
        Due.fault(ab + "at 0 sell 1 a;", 1, n + 12);
        Due.fault("at 0 scan 1 a;place a;", 1, 12);
        // The first along the text counts, whichever its number is.
        Due.fault("fits 21 1;$", 2, 5);
        Due.fault("$fits 21 1;", 1, 0);
        Due.sound("", 0);
        Due.sound(" \n ", 0);
        Due.sound("place abcdef;", 1);
        Due.sound("place a;place aa;place b;", 3);
        Due.sound(" place\na ;\n place b;road a\nb 99;road b a 1;fits 20 20;", 5);
        Due.sound("at 999 end 39;at 0 end 0;", 2);
        Due.sound("at 007 end 0000000000000000000001;", 1);
        Due.sound("place a;at 0make 1unit a;", 2);
        Due.sound(ab + "at 0 make 1 unit a;at 0 make 2 carton b;at 0 make 3 pallet a;at 1 pack 1 2;at 2 out 1;"
            + "at 3 open 2;at 3 seal 2;at 3 move 2 a;at 3 scan 2 a;at 3 sell 2;at 3 back 2 b;at 3 end 2;at 3 free 2;", 15);
    }

    private static void tooManyLines() {
        StringBuilder eight = new StringBuilder();
        for (char c = 'a'; c < 'i'; c++) {
            eight.append("place ").append(c).append(';');
        }
        Due.sound(eight.toString(), 8);
        Due.fault(eight + "place i;", 2, 64);
        Due.fault(eight + "place a;", 2, 64);
        Due.fault(eight + "place", 2, 64);
        StringBuilder roads = new StringBuilder("place a;place b;");
        for (int r = 0; r < 12; r++) {
            roads.append("road a b ").append(r + 1).append(';');
        }
        Due.sound(roads.toString(), 14);
        Due.fault(roads + "road a b 1;", 2, roads.length());
        Due.fault(roads + "road a a 1;", 2, roads.length());
        StringBuilder sixty = new StringBuilder();
        for (int k = 0; k < 60; k++) {
            sixty.append("at 0 end 1;");
        }
        Due.sound(sixty.toString(), 60);
        Due.fault(sixty + "at 0 end 1;", 2, 660);
        Due.fault(sixty + "at x", 2, 660);
        Due.sound(sixty + "place a;", 61);
        PackTracer x = Due.traced(sixty.toString());
        Due.is("a 61st told", Due.tell(x, "at 0 end 1;"), -1);
        Due.is("a 61st told: fault", x.fault(0), 2);
        Due.is("a 61st told: its place", x.fault(1), 0);
        x = Due.traced(sixty.substring(11));
        Due.is("a 60th told", Due.tell(x, "at 0 end 1;"), 1);
        x = Due.traced(sixty.substring(11));
        Due.is("a 60th and a 61st told", Due.tell(x, "at 0 end 1; at 0 end 1;"), -1);
        Due.is("the 61st's place", x.fault(1), 12);
        Due.is("none of it comes", x.count(2), 59);
    }

    private static void tellAddsMessages() {
        PackTracer x = Due.traced("place a;place b;road a b 2;at 5 make 1 unit a;");
        Due.is("tell", Due.tell(x, "at 3 make 2 unit b;at 7 move 1 b;"), 2);
        Due.is("three messages", x.count(2), 3);
        Due.is("one is late", x.count(3), 1);
        Due.is("it is number 1", Due.message(x, 1, 6), 1);
        Due.is("moved", x.thing(1, 999, 3), 1);
        String[] others = {"place c;", "road a b 1;", "fits 1 1;"};
        for (String other : others) {
            Due.is("tell(" + other + ")", Due.tell(x, "at 8 end 1;" + other), -1);
            Due.is("tell(" + other + ") fault", x.fault(0), 1);
            Due.is("tell(" + other + ") place", x.fault(1), 11);
        }
        Due.is("three messages still", x.count(2), 3);
        Due.is("thing 1 is not ended", x.thing(1, 999, 3), 1);
        Due.is("tell of an unknown place", Due.tell(x, "at 0 make 3 unit c;"), -1);
        Due.is("its place", x.fault(1), 17);
        Due.is("tell nothing", Due.tell(x, ""), 0);
        Due.is("no fault", x.fault(0), 0);
        x = Due.traced("place az;place zb;fits 2 3;at 0 make 1 unit zb;");
        Due.is("a text with a fault in between", Due.text(x, "place q;at 7 end 1;fits 4 5;place q;"), -1);
        Due.is("tell goes on from what was there", Due.tell(x, "at 1 move 1 zb;at 2 make 2 unit az;"), 2);
        Due.is("places as before", x.count(0), 2);
        Due.is("fits as before", x.count(4) * 10 + x.count(5), 23);
        Due.is("messages as before", Due.message(x, 0, 2) * 10 + x.count(2), 13);
        Due.is("the place by its name", x.thing(1, 1, 3) * 10 + x.thing(2, 2, 3), 10);
        x = Due.traced("fits 1 1;");
        Due.is("fits told twice, in tell: the least fault", Due.tell(x, "fits 1 1;"), -1);
        Due.is("the least fault", x.fault(0), 1);
    }

    private static void ways() {
        PackTracer x = Due.traced("place a;place b;place c;place d;place e;"
            + "road a b 9;road b a 4;road a b 7;road b c 3;road a c 8;road d e 99;");
        int[][] due = {{0, 4, 7, -2, -2}, {4, 0, 3, -2, -2}, {7, 3, 0, -2, -2}, {-2, -2, -2, 0, 99}, {-2, -2, -2, 99, 0}};
        for (int a = 0; a < 5; a++) {
            for (int b = 0; b < 5; b++) {
                Due.is("hours(" + a + ", " + b + ")", x.hours(a, b), due[a][b]);
            }
        }
        Due.is("hours(0, 5)", x.hours(0, 5), -1);
        Due.is("hours(-1, 0)", x.hours(-1, 0), -1);
        Due.is("hours(-3, 0)", x.hours(-3, 0), -1);
        // Seven roads in a row, told from the far end.
        x = Due.traced("place a;place b;place c;place d;place e;place f;place g;place h;"
            + "road g h 7;road f g 6;road e f 5;road d e 4;road c d 3;road b c 2;road a b 1;");
        Due.is("over all places", x.hours(0, 7), 28);
        Due.is("over all places back", x.hours(7, 0), 28);
    }

    private static void messages() {
        PackTracer x = Due.traced("place a;place b;road a b 2;at 9 make 7 pallet b;at 3 make 8 carton a;at 9 pack 8 7;"
            + "at 1 out 8;at 1 open 8;at 1 seal 8;at 1 move 8 b;at 1 scan 8 b;at 1 sell 8;at 1 back 8 a;at 1 end 8;at 9 free 8;");
        int[] seconds = {1, 0, 7, -2, -2, -2, 1, 1, -2, 0, -2, -2};
        int[] firsts = {7, 8, 8, 8, 8, 8, 8, 8, 8, 8, 8, 8};
        int[] acts = {0, 0, 1, 2, 3, 4, 5, 6, 7, 8, 9, 10};
        int[] hours = {9, 3, 9, 1, 1, 1, 1, 1, 1, 1, 1, 9};
        int[] turns = {9, 8, 10, 0, 1, 2, 3, 4, 5, 6, 7, 11};
        int[] late = {0, 1, 0, 1, 1, 1, 1, 1, 1, 1, 1, 0};
        for (int k = 0; k < 12; k++) {
            Due.is("hour of " + k, Due.message(x, k, 0), hours[k]);
            Due.is("act of " + k, Due.message(x, k, 1), acts[k]);
            Due.is("first of " + k, Due.message(x, k, 2), firsts[k]);
            Due.is("second of " + k, Due.message(x, k, 3), seconds[k]);
            Due.is("turn of " + k, Due.message(x, k, 5), turns[k]);
            Due.is("late of " + k, Due.message(x, k, 6), late[k]);
        }
        Due.verdicts(x, "messages", 0, 0, 7, 2, 2, 2, 2, 2, 2, 2, 2, 12);
        Due.is("message(12, 0)", Due.message(x, 12, 0), Due.INDEX);
        Due.is("message(-1, 0)", Due.message(x, -1, 0), Due.INDEX);
        Due.is("message(12, 9)", Due.message(x, 12, 9), Due.INDEX);
        Due.is("message(0, 7)", Due.message(x, 0, 7), Due.ELEMENT);
        Due.is("message(0, -1)", Due.message(x, 0, -1), Due.ELEMENT);
    }

    private static void counts() {
        PackTracer x = Due.traced("place a;place b;road a b 2;road a b 3;fits 3 4;at 5 end 1;at 4 end 1;at 5 end 1;at 3 end 1;");
        x.feed(0, 0, 0, 0, 0);
        int[] due = {2, 2, 4, 2, 3, 4, 20, -1};
        for (int what = 0; what < due.length; what++) {
            Due.is("count(" + what + ")", x.count(what), due[what]);
        }
    }
}
