/** One tale that many tests ask about: units 1, 2, 5, a carton 10, a pallet 20; places a, b, c, and d where no road goes. */
final class House {
    static final int MESSAGES = 17;
    static final String TALE = "place a;place b;place c;place d;road a b 5;road b c 3;"
        + "at 0 make 1 unit a;at 0 make 2 unit a;at 0 make 10 carton a;at 0 make 20 pallet a;"
        // 4, 5, 6: all on the pallet.
        + "at 1 pack 1 10;at 1 pack 2 10;at 2 pack 10 20;"
        // 7; 8 is too soon, so that unit 2 is quarantined.
        + "at 7 move 20 b;at 8 scan 2 a;"
        // 9 leaves the pallet open and empty, 10 sells it.
        + "at 9 out 10;at 10 sell 20;"
        // 11 moves the sealed carton, 12 ends unit 2 in it, so that it is open.
        + "at 12 scan 1 c;at 20 end 2;"
        // 13; 14 takes unit 1 out of the open carton; 15 is late; 16 is refused.
        + "at 25 back 20 d;at 30 scan 1 b;at 28 make 5 unit d;at 40 free 1;";

    private House() {
    }

    static PackTracer told() {
        PackTracer x = Due.traced(TALE);
        Due.verdicts(x, "the house", 0, 0, 0, 0, 0, 0, 0, 0, 10, 0, 0, 0, 0, 0, 0, 0, 12);
        return x;
    }
}
