import java.nio.charset.StandardCharsets;

/** What several tests need: answers held against those that are due, and texts that come onto the TAPE. */
final class Calls {
    static final int NONE = -1;
    static final int NOTHING = -1000000;
    static final int LOW = Integer.MIN_VALUE;
    static final int HIGH = Integer.MAX_VALUE;
    static final int ALL_HOURS = 16777215;

    private static int wrong = 0;
    private static String about = "";

    private Calls() {
    }

    /** What the checks that follow are about: it is printed with each that fails. */
    static void about(String what) {
        about = what;
    }

    static void due(String call, int got, int want) {
        if (got != want) {
            fail(call + " answered " + got + ", due is " + want);
        }
    }

    static void fail(String what) {
        wrong++;
        System.out.println("[" + about + "] " + what);
    }

    static void finish(String name) {
        System.out.println(name + (wrong == 0 ? ": all answers are as due" : ": " + wrong + " are not as due"));
        if (wrong != 0) {
            System.exit(1);
        }
    }

    /** The TAPE has these bytes alone then. */
    static void feed(RoadWater x, byte[] bytes) {
        x.end(0);
        for (int i = 0; i < bytes.length; i += 20) {
            int[] f = new int[5];
            for (int k = 0; k < 20; k++) {
                f[k / 4] = f[k / 4] << 8 | (i + k < bytes.length ? bytes[i + k] & 255 : 0);
            }
            x.feed(f[0], f[1], f[2], f[3], f[4]);
        }
        due("end(" + bytes.length + ")", x.end(bytes.length), bytes.length);
    }

    static void feed(RoadWater x, String text) {
        feed(x, text.getBytes(StandardCharsets.ISO_8859_1));
    }

    static int law(RoadWater x, String text) {
        feed(x, text);
        return x.law();
    }

    /** A new object with this LAW in FORCE. */
    static RoadWater under(String text) {
        RoadWater x = new RoadWater();
        due("law \"" + text + "\"", law(x, text), 0);
        due("force(0)", x.force(0), NONE);
        return x;
    }

    /** A LAW's TEXT alone: its FAULT, NONE if it has none. */
    static void fault(String text, int want) {
        RoadWater x = new RoadWater();
        due("law \"" + text + "\"", law(x, text), want == NONE ? 0 : -6);
        due("fault of \"" + text + "\"", x.fault(), want);
    }

    /** WARMTH at PLACE 7 with RISE 3 and GROUND 4, at INCH 5 in HOUR 9. */
    static void told(String text, int want) {
        RoadWater x = under(text);
        x.rise(7, 3);
        x.ground(7, 7, 4);
        due("warm(7, 5, 9) by \"" + text + "\"", x.warm(7, 5, 9), want);
    }

    /** What ray(angle, ..) answers to what 0, 1, 2 and so on. */
    static void ray(RoadWater x, int angle, int... want) {
        for (int what = 0; what < want.length; what++) {
            due("ray(" + angle + ", " + what + ")", x.ray(angle, what), want[what]);
        }
    }
}
