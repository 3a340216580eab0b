import java.math.BigInteger;
import java.util.ArrayList;
import java.util.HashSet;
import java.util.List;
import java.util.Random;
import java.util.Set;
import java.util.regex.Matcher;
import java.util.regex.Pattern;

/** Random texts, many with a fault: what text and tell say of them held against the grammar, said once more by patterns. */
public final class FaultTest {
    private static final Pattern TOKEN = Pattern.compile("[a-z]+|[0-9]+|[^ \\n]", Pattern.DOTALL);
    private static final Set<String> LANGUAGE = Set.of("place", "road", "fits", "at", "make", "unit", "carton", "pallet", "pack", "out",
        "open", "seal", "move", "scan", "sell", "back", "end", "free");
    private static final String[] ACTS = {"make N KIND W", "pack N N", "out N", "open N", "seal N", "move N W", "scan N W", "sell N",
        "back N W", "end N", "free N"};
    private static final String[] BITS = {" ", "\n", ";", "place", "road", "fits", "at", "make", "unit", "pallet", "pack", "move", "free",
        "a", "b", "zz", "abcdef", "abcdefg", "0", "1", "20", "21", "39", "40", "99", "100", "999", "1000", "4294967296", "?", "A",
        "\u00ff", "\t", "placea", "at1"};

    /** What a text of some lines has told. */
    private static final class Told {
        private List<String> places = new ArrayList<>();
        private int roads;
        private int messages;
        private boolean fits;

        private Told copy() {
            Told t = new Told();
            t.places = new ArrayList<>(places);
            t.roads = roads;
            t.messages = messages;
            t.fits = fits;
            return t;
        }
    }

    /** One reading of a text: where it stands, and the first fault. */
    private static final class Reading {
        private final List<String> tokens = new ArrayList<>();
        private final List<Integer> starts = new ArrayList<>();
        private final Told told;
        private int next;
        private int fault;
        private int at = -1;
        private int lines;

        private Reading(String text, Told told, boolean messagesAlone) {
            this.told = told;
            Matcher m = TOKEN.matcher(text);
            while (m.find()) {
                tokens.add(m.group());
                starts.add(m.start());
            }
            tokens.add("");
            starts.add(text.length());
            while (fault == 0 && !tokens.get(next).isEmpty()) {
                line(messagesAlone);
                lines++;
            }
        }

        private void line(boolean messagesAlone) {
            String word = tokens.get(next);
            switch (messagesAlone && !word.equals("at") ? "" : word) {
                case "place" -> {
                    check(told.places.size() < 8, 2);
                    String name = tokens.get(next);
                    check(isName(name), 1, !told.places.contains(name), 3);
                    told.places.add(name);
                }
                case "road" -> {
                    check(told.roads++ < 12, 2);
                    String from = tokens.get(next);
                    check(told.places.contains(from), 1);
                    check(told.places.contains(tokens.get(next)), 1, !tokens.get(next).equals(from), 3);
                    number(1, 99);
                }
                case "fits" -> {
                    check(!told.fits, 3);
                    told.fits = true;
                    number(1, 20);
                    number(1, 20);
                }
                case "at" -> {
                    check(told.messages++ < 60, 2);
                    number(0, 999);
                    act();
                }
                default -> check(false, 1);
            }
            check(tokens.get(next).equals(";"), 1);
        }

        private void act() {
            String word = tokens.get(next);
            for (String act : ACTS) {
                String[] slots = act.split(" ");
                if (slots[0].equals(word)) {
                    check(true, 1);
                    for (int s = 1; s < slots.length; s++) {
                        switch (slots[s]) {
                            case "N" -> number(0, 39);
                            case "W" -> check(told.places.contains(tokens.get(next)), 1);
                            default -> check(Set.of("unit", "carton", "pallet").contains(tokens.get(next)), 1);
                        }
                    }
                    return;
                }
            }
            check(false, 1);
        }

        private void number(int least, int greatest) {
            String token = tokens.get(next);
            boolean is = token.matches("[0-9]+");
            BigInteger value = is ? new BigInteger(token) : BigInteger.ZERO;
            check(is, 1, value.compareTo(BigInteger.valueOf(least)) >= 0 && value.compareTo(BigInteger.valueOf(greatest)) <= 0, 2);
        }

        private static boolean isName(String token) {
            return token.matches("[a-z]{1,6}") && !LANGUAGE.contains(token);
        }

        private void check(boolean holds, int number) {
            check(holds, number, true, 0);
        }

        /** The token holds to what is asked of it, in this order, or is the first fault; then the next one stands there. */
        private void check(boolean first, int firstNumber, boolean second, int secondNumber) {
            if (fault == 0 && !(first && second)) {
                fault = first ? secondNumber : firstNumber;
                at = starts.get(next);
            }
            if (fault == 0) {
                next++;
            }
        }
    }

    public static void main(String[] args) {
        Set<Integer> faults = new HashSet<>();
        for (int seed = 1; seed <= 4000; seed++) {
            Random random = Due.random(seed);
            PackTracer x = new PackTracer();
            Told told = new Told();
            for (int part = 0; part < 4; part++) {
                boolean alone = part > 0 && random.nextInt(4) > 0;
                String text = spoil(random, sound(random, alone ? told : new Told(), alone));
                Reading reading = new Reading(text, alone ? told.copy() : new Told(), alone);
                int answer = alone ? Due.tell(x, text) : Due.text(x, text);
                String call = seed + " " + (alone ? "tell(" : "text(") + text + ")";
                Due.is(call, answer, reading.fault == 0 ? reading.lines : -1);
                Due.is(call + " fault(0)", x.fault(0), reading.fault);
                Due.is(call + " fault(1)", x.fault(1), reading.at);
                told = reading.fault == 0 ? reading.told : told;
                Due.row(call + " counts", new int[] {x.count(0), x.count(1), x.count(2)}, told.places.size(), told.roads, told.messages);
                faults.add(reading.fault);
            }
        }
        Due.is("kinds of faults, and none", faults.size(), 4);
        Due.end();
    }

    private static String sound(Random random, Told told, boolean alone) {
        StringBuilder b = new StringBuilder();
        List<String> places = new ArrayList<>(told.places);
        int many = random.nextInt(4) == 0 ? 70 : random.nextInt(12);
        for (int p = alone ? 0 : random.nextInt(10); p > 0; p--) {
            String name = "abcdefgh".substring(places.size() % 8, places.size() % 8 + 1).repeat(1 + random.nextInt(6));
            places.add(name);
            b.append("place ").append(name).append(';');
        }
        for (int r = alone || places.size() < 2 ? 0 : random.nextInt(15); r > 0; r--) {
            int a = random.nextInt(places.size());
            int c = random.nextInt(20) == 0 ? a : (a + 1 + random.nextInt(places.size() - 1)) % places.size();
            b.append("road ").append(places.get(a)).append(' ').append(places.get(c)).append(' ').append(1 + random.nextInt(99)).append(';');
        }
        if (!alone && random.nextBoolean()) {
            b.append("fits ").append(1 + random.nextInt(20)).append(' ').append(1 + random.nextInt(20)).append(';');
        }
        for (int k = 0; k < many && b.length() < 860; k++) {
            String act = ACTS[many > 60 ? 9 : random.nextInt(ACTS.length)].replace("KIND", random.nextBoolean() ? "unit" : "carton");
            b.append("at ").append(random.nextInt(many > 60 ? 10 : 1000));
            for (String slot : act.split(" ")) {
                boolean isPlace = slot.equals("W");
                String place = places.isEmpty() ? "a" : places.get(random.nextInt(places.size()));
                b.append(' ').append(isPlace ? place : slot.equals("N") ? "" + random.nextInt(40) : slot);
            }
            b.append(';');
        }
        return b.toString();
    }

    /** Up to two changes: a sign taken out, some signs put in or twice, the end cut off. */
    private static String spoil(Random random, String text) {
        StringBuilder b = new StringBuilder(text);
        for (int changes = random.nextInt(3); changes > 0; changes--) {
            int at = random.nextInt(b.length() + 1);
            switch (random.nextInt(4)) {
                case 0 -> b.delete(at, Math.min(b.length(), at + 1 + random.nextInt(3)));
                case 1 -> b.insert(at, BITS[random.nextInt(BITS.length)]);
                case 2 -> b.insert(at, " " + BITS[random.nextInt(BITS.length)] + " ");
                default -> b.setLength(random.nextInt(5) == 0 ? at : b.length());
            }
        }
        return b.length() > 900 ? b.substring(0, 900) : b.toString();
    }
}
