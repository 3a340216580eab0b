import java.nio.charset.StandardCharsets;
import java.util.NoSuchElementException;

/** What the tests share: texts as calls of feed, answers held against what is due. */
final class Due {
    static final int INDEX = -1000001;
    static final int ELEMENT = -1000002;
    private static int wrong = 0;
    private static int right = 0;

    private Due() {
    }

    static void is(String call, long got, long want) {
        if (got == want) {
            right++;
        } else {
            wrong++;
            if (wrong <= 50) {
                System.out.println(call + " answered " + got + ", due is " + want);
            }
        }
    }

    static void end() {
        System.out.println(right + " answers as due, " + wrong + " not");
        if (wrong != 0) {
            System.exit(1);
        }
    }

    static void feed(PackTracer x, byte[] bytes) {
        int[] four = new int[5];
        for (int i = 0; i < bytes.length; i += 20) {
            for (int w = 0; w < 5; w++) {
                four[w] = 0;
                for (int b = 0; b < 4; b++) {
                    int at = i + 4 * w + b;
                    four[w] = four[w] << 8 | (at < bytes.length ? bytes[at] & 255 : ' ');
                }
            }
            x.feed(four[0], four[1], four[2], four[3], four[4]);
        }
    }

    static int text(PackTracer x, String text) {
        byte[] bytes = text.getBytes(StandardCharsets.ISO_8859_1);
        feed(x, bytes);
        return x.text(bytes.length);
    }

    static int tell(PackTracer x, String text) {
        byte[] bytes = text.getBytes(StandardCharsets.ISO_8859_1);
        feed(x, bytes);
        return x.tell(bytes.length);
    }

    static PackTracer traced(String text) {
        PackTracer x = new PackTracer();
        int lines = text(x, text);
        if (lines < 0) {
            is("text(" + text + ") with fault " + x.fault(0) + " at " + x.fault(1), lines, 0);
        }
        return x;
    }

    static int message(PackTracer x, int k, int what) {
        try {
            return x.message(k, what);
        } catch (IndexOutOfBoundsException e) {
            return INDEX;
        } catch (NoSuchElementException e) {
            return ELEMENT;
        }
    }

    /** Verdicts of the first messages, one after the other. */
    static void verdicts(PackTracer x, String run, int... why) {
        for (int k = 0; k < why.length; k++) {
            is(run + ": message(" + k + ", 4)", message(x, k, 4), why[k]);
        }
    }
}
