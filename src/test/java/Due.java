import java.nio.charset.StandardCharsets;
import java.util.ArrayList;
import java.util.List;
import java.util.NoSuchElementException;
import java.util.Random;
import java.util.SplittableRandom;
import java.util.function.IntUnaryOperator;

/** What the tests share: texts as calls of feed, answers held against what is due. */
final class Due {
    static final int INDEX = -1000001;
    static final int ELEMENT = -1000002;
    static final int LEAST = Integer.MIN_VALUE;
    static final int GREATEST = Integer.MAX_VALUE;
    private static int wrong = 0;
    private static int right = 0;
    private static String sentence = "";

    private Due() {
    }

    /** What the answers from here on are due by; written with each that is wrong. */
    static void by(String words) {
        sentence = words;
    }

    static int answers() {
        return right + wrong;
    }

    static void is(String call, long got, long want) {
        if (got == want) {
            right++;
        } else {
            wrong++;
            if (wrong <= 50) {
                System.out.println(sentence + call + " answered " + got + ", due is " + want);
            }
        }
    }

    static void row(String call, int[] got, int... due) {
        is(call + ": how many", got.length, due.length);
        for (int i = 0; i < due.length && i < got.length; i++) {
            is(call + " [" + i + "]", got[i], due[i]);
        }
    }

    /** The i-th of some: these, then -2 however far behind them, and NONE for an i below 0. */
    static void list(String call, IntUnaryOperator ith, int... due) {
        for (int i = 0; i < due.length; i++) {
            is(call + " i " + i, ith.applyAsInt(i), due[i]);
        }
        int[] beyond = {due.length, due.length + 1, due.length + 64, GREATEST};
        for (int i : beyond) {
            is(call + " i " + i, ith.applyAsInt(i), -2);
        }
        is(call + " i -1", ith.applyAsInt(-1), PackTracer.NONE);
        is(call + " the least i", ith.applyAsInt(LEAST), PackTracer.NONE);
    }

    /** A number that must be in a span: the same wrong answer just outside of it and far away, none such at its ends. */
    static void span(String call, int least, int greatest, int outside, IntUnaryOperator ask) {
        int[] beyond = {least - 1, greatest + 1, LEAST, GREATEST, greatest + 65536};
        for (int n : beyond) {
            is(call + " with " + n, ask.applyAsInt(n), outside);
        }
        is(call + " is answered with " + least, ask.applyAsInt(least) == outside ? 0 : 1, 1);
        is(call + " is answered with " + greatest, ask.applyAsInt(greatest) == outside ? 0 : 1, 1);
    }

    static void end() {
        System.out.println(right + " answers as due, " + wrong + " not");
        if (wrong != 0) {
            System.exit(1);
        }
    }

    /** The first numbers of Random are much alike for seeds that follow each other: these are not. */
    static Random random(long seed) {
        return new Random(new SplittableRandom(seed).nextLong());
    }

    static byte[] bytes(String text) {
        return text.getBytes(StandardCharsets.ISO_8859_1);
    }

    static void feed(PackTracer x, byte[] bytes) {
        int[] four = new int[5];
        for (int i = 0; i < bytes.length; i += 20) {
            for (int w = 0; w < 5; w++) {
                four[w] = 0;
                for (int b = 0; b < 4; b++) {
                    int at = i + 4 * w + b;
                    four[w] = four[w] << 8 | (at < bytes.length ? bytes[at] & 255 : ' ');
                }
            }
            x.feed(four[0], four[1], four[2], four[3], four[4]);
        }
    }

    static int text(PackTracer x, String text) {
        feed(x, bytes(text));
        return x.text(text.length());
    }

    static int tell(PackTracer x, String text) {
        feed(x, bytes(text));
        return x.tell(text.length());
    }

    static PackTracer traced(String text) {
        PackTracer x = new PackTracer();
        int lines = text(x, text);
        if (lines < 0) {
            is("text(" + text + ") with fault " + x.fault(0) + " at " + x.fault(1), lines, 0);
        }
        return x;
    }

    /** A text that has a fault, on a new object. */
    static void fault(String text, int number, int at) {
        PackTracer x = new PackTracer();
        is("text(" + text + ")", text(x, text), -1);
        is("fault(0) of " + text, x.fault(0), number);
        is("fault(1) of " + text, x.fault(1), at);
    }

    /** A text that has none, on a new object. */
    static PackTracer sound(String text, int lines) {
        PackTracer x = new PackTracer();
        is("text(" + text + ")", text(x, text), lines);
        is("fault(0) of " + text, x.fault(0), 0);
        is("fault(1) of " + text, x.fault(1), -1);
        return x;
    }

    static int message(PackTracer x, int k, int what) {
        try {
            return x.message(k, what);
        } catch (IndexOutOfBoundsException e) {
            return INDEX;
        } catch (NoSuchElementException e) {
            return ELEMENT;
        }
    }

    /** Verdicts of the first messages, one after the other. */
    static void verdicts(PackTracer x, String run, int... why) {
        for (int k = 0; k < why.length; k++) {
            is(run + ": message(" + k + ", 4)", message(x, k, 4), why[k]);
        }
    }

    /** All that can be asked, but for the fault and the tape: to see whether something changed. */
    static List<Integer> everything(PackTracer x) {
        List<Integer> all = new ArrayList<>();
        int[] hours = {0, 1, 2, 5, 9, 14, 25, 999};
        for (int what = 0; what < 6; what++) {
            all.add(x.count(what));
        }
        for (int a = 0; a < 8; a++) {
            for (int b = 0; b < 8; b++) {
                all.add(x.hours(a, b));
                all.add(x.flow(a, b));
            }
            all.add(x.busy(a, 0));
            all.add(x.busy(a, 1));
        }
        for (int k = 0; k < 20; k++) {
            for (int what = 0; what < 7; what++) {
                all.add(message(x, k, what));
            }
            all.add(x.changed(k));
            all.add(x.cause(k));
            all.add(x.needs(k, 0));
            all.add(x.window(k, 2));
            all.add(x.ifAt(k, 7, -1));
            all.add(x.ifSwapped(k, 0, -1));
        }
        for (int n = 0; n < 40; n++) {
            for (int h : hours) {
                for (int what = 0; what < 10; what++) {
                    all.add(x.thing(n, h, what));
                }
                all.add(x.met(n, h, 1));
                all.add(x.still(n, h));
            }
            all.add(x.trail(n, 1, 0));
            all.add(x.clash(n, 0, 2));
            all.add(x.travelled(n));
        }
        for (int what = 0; what < 3; what++) {
            all.add(x.blamed(what));
            all.add(x.twoBlamed(what));
        }
        return all;
    }
}
