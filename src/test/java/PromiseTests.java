import java.nio.charset.StandardCharsets;

/**
 * One method a promise: ordinary inputs, the edges that the document names, and
 * wrong inputs. Most answers are worked out by hand; those of the mirage (its
 * pictures, from how many heights it is seen twice, where there are 9 and 10)
 * were read off the class, and RandomRuns holds them against the second program.
 */
public final class PromiseTests {
    private static final int NONE = RoadWater.NONE;
    private static final int NOTHING = RoadWater.NOTHING;
    private static final int LOW = Integer.MIN_VALUE;
    private static final int HIGH = Integer.MAX_VALUE;
    private static final int ALL_HOURS = 16777215;

    private static int wrong = 0;
    private static int promise = 0;

    private static void due(String call, int got, int want) {
        if (got != want) {
            wrong++;
            System.out.println("promise " + promise + ": " + call + " answered " + got + ", due is " + want);
        }
    }

    private static void feed(RoadWater x, byte[] bytes) {
        x.end(0);
        for (int i = 0; i < bytes.length; i += 20) {
            int[] f = new int[5];
            for (int k = 0; k < 20; k++) {
                f[k / 4] = f[k / 4] << 8 | (i + k < bytes.length ? bytes[i + k] & 255 : 0);
            }
            x.feed(f[0], f[1], f[2], f[3], f[4]);
        }
        due("end(" + bytes.length + ")", x.end(bytes.length), bytes.length);
    }

    private static int law(RoadWater x, String text) {
        feed(x, text.getBytes(StandardCharsets.ISO_8859_1));
        return x.law();
    }

    /** A new object with this law in force. */
    private static RoadWater under(String text) {
        RoadWater x = new RoadWater();
        due("law \"" + text + "\"", law(x, text), 0);
        x.force(0);
        return x;
    }

    private static void told(String text, int want) {
        RoadWater x = under(text);
        x.rise(7, 3);
        x.ground(7, 7, 4);
        due("warm(7, 5, 9) by \"" + text + "\"", x.warm(7, 5, 9), want);
    }

    private static void fault(String text, int want) {
        RoadWater x = new RoadWater();
        due("law \"" + text + "\"", law(x, text), want == NONE ? 0 : -6);
        due("fault of \"" + text + "\"", x.fault(), want);
        due("tape behind it", x.count(4), 0);
        due("laws behind it", x.count(1), want == NONE ? 1 : 0);
    }

    private static String times(int n, String piece) {
        return piece.repeat(n);
    }

    public static void main(String[] args) {
        p01(); p02(); p03(); p04(); p05(); p06(); p07(); p08(); p09(); p10(); p11();
        p12(); p13(); p14(); p15(); p16(); p17(); p18(); p19(); p20(); p21(); p22();
        p23(); p24(); p25(); p26(); p27(); p28(); p29(); p30(); p31(); p32(); p33();
        p34(); p35(); p36(); p37(); p38(); p39(); p40(); p41(); p42(); p43(); p44();
        System.out.println(wrong == 0 ? "promises: all answers are as due" : wrong + " answers are not as due");
        if (wrong != 0) {
            System.exit(1);
        }
    }

    private static void p01() {
        promise = 1;
        due("NONE", RoadWater.NONE, -1);
        due("NOTHING", RoadWater.NOTHING, -1000000);
        RoadWater x = new RoadWater();
        int[] counts = {0, 0, 0, 0, 0, 0, 0, 0, 0, 0, NONE, 12, 1, 0, 16};
        for (int what = 0; what < counts.length; what++) {
            due("count(" + what + ")", x.count(what), counts[what]);
        }
        due("status()", x.status(), 0);
        due("worn()", x.worn(), 0);
        due("fault()", x.fault(), NONE);
        due("warm(63, 31, 23)", x.warm(63, 31, 23), 10);
        due("trembled(0, 0)", x.trembled(0, 0), NONE);
        due("back(0)", x.back(0), -2);
        for (int place = 0; place < 64; place++) {
            due("rise(" + place + ", 0)", x.rise(place, 0), 0);
        }
        due("ground(0, 63, 0)", x.ground(0, 63, 0), 0);
    }

    private static void p02() {
        promise = 2;
        RoadWater x = new RoadWater();
        due("rise(0, 31)", x.rise(0, 31), 0);
        due("rise(0, 0)", x.rise(0, 0), 31);
        due("rise(63, 7)", x.rise(63, 7), 0);
        due("rise(63, 7)", x.rise(63, 7), 7);
        int[][] bad = {{-1, 0}, {64, 0}, {0, -1}, {0, 32}, {LOW, HIGH}, {HIGH, LOW}};
        for (int[] b : bad) {
            due("rise(" + b[0] + ", " + b[1] + ")", x.rise(b[0], b[1]), -1);
        }
        due("rise(0, 0)", x.rise(0, 0), 0);
        due("count(3)", x.count(3), 1);
        RoadWater y = under("warm above * 10 + rise");
        due("warm ahead", y.warm(5, 4, 0), 40);
        y.rise(5, 3);
        due("warm behind", y.warm(5, 4, 0), 13);
    }

    private static void p03() {
        promise = 3;
        RoadWater x = under("warm ground");
        due("ground(10, 20, 5)", x.ground(10, 20, 5), 11);
        due("ground(15, 25, 5)", x.ground(15, 25, 5), 5);
        due("ground(25, 25, 9)", x.ground(25, 25, 9), 1);
        due("warm(25)", x.warm(25, 0, 0), 9);
        due("ground(0, 63, 0)", x.ground(0, 63, 0), 16);
        due("warm(25)", x.warm(25, 0, 0), 0);
        int[][] bad = {{-1, 3, 0}, {0, 64, 0}, {4, 3, 0}, {0, 3, -1}, {0, 3, 10}, {64, 64, 1}, {LOW, HIGH, 1}};
        for (int[] b : bad) {
            due("ground(" + b[0] + ", " + b[1] + ", " + b[2] + ")", x.ground(b[0], b[1], b[2]), -1);
        }
        due("count(5)", x.count(5), bad.length);
    }

    private static void p04() {
        promise = 4;
        RoadWater x = new RoadWater();
        for (int i = 0; i < 8; i++) {
            due("thing(" + i * 9 + ", 31)", x.thing(i * 9, 31), i);
        }
        due("one is there goes ahead of no room", x.thing(9, 1), -3);
        due("thing(1, 1)", x.thing(1, 1), -5);
        due("a bad number goes ahead of all", x.thing(9, 0), -1);
        due("thing(-1, 1)", x.thing(-1, 1), -1);
        due("thing(64, 1)", x.thing(64, 1), -1);
        due("thing(1, 32)", x.thing(1, 32), -1);
        due("thing(LOW, HIGH)", x.thing(LOW, HIGH), -1);
        due("count(0)", x.count(0), 8);
    }

    private static void p05() {
        promise = 5;
        RoadWater x = new RoadWater();
        x.thing(5, 3);
        x.thing(6, 4);
        due("move(0, 5)", x.move(0, 5), 5);
        due("move(0, 6)", x.move(0, 6), -3);
        due("move(0, 63)", x.move(0, 63), 5);
        due("move(1, 5)", x.move(1, 5), 6);
        due("move(0, 0)", x.move(0, 0), 63);
        due("of(0, 0)", x.of(0, 0), 0);
        due("of(1, 0)", x.of(1, 0), 5);
        due("no such thing goes ahead of another one there", x.move(2, 5), -2);
        due("move(-1, 9)", x.move(-1, 9), -2);
        due("move(HIGH, 9)", x.move(HIGH, 9), -2);
        due("a bad number goes ahead of no such thing", x.move(2, 64), -1);
        due("move(0, -1)", x.move(0, -1), -1);
        due("thing(6, 1)", x.thing(6, 1), 2);
    }

    private static void p06() {
        promise = 6;
        RoadWater x = new RoadWater();
        x.thing(33, 31);
        due("of(0, 0)", x.of(0, 0), 33);
        due("of(0, 1)", x.of(0, 1), 31);
        due("of(0, 2)", x.of(0, 2), 31);
        x.rise(33, 1);
        due("of(0, 2) on 1", x.of(0, 2), 31);
        x.rise(33, 2);
        due("of(0, 2) on 2", x.of(0, 2), 30);
        x.rise(33, 31);
        due("of(0, 2) on 31", x.of(0, 2), 1);
        due("of(0, 1) on 31", x.of(0, 1), 31);
        int[][] bad = {{1, 0}, {-1, 0}, {0, 3}, {0, -1}, {HIGH, 0}, {LOW, 1}};
        for (int[] b : bad) {
            due("of(" + b[0] + ", " + b[1] + ")", x.of(b[0], b[1]), NONE);
        }
        due("count(5): NONE is not REFUSED", x.count(5), 0);
    }

    private static void p07() {
        promise = 7;
        RoadWater x = new RoadWater();
        int[] first = {12, 1, 0, 16};
        int[] top = {23, 9, 63, 31};
        for (int what = 0; what < 4; what++) {
            due("terms(" + what + ", top)", x.terms(what, top[what]), first[what]);
            due("terms(" + what + ", beyond)", x.terms(what, top[what] + 1), -1);
            due("terms(" + what + ", -1)", x.terms(what, -1), -1);
            due("count", x.count(11 + what), top[what]);
            due("terms(" + what + ", 0)", x.terms(what, 0), top[what]);
        }
        due("terms(4, 0)", x.terms(4, 0), -1);
        due("terms(-1, 0)", x.terms(-1, 0), -1);
        due("terms(HIGH, LOW)", x.terms(HIGH, LOW), -1);
    }

    private static void p08() {
        promise = 8;
        RoadWater x = new RoadWater();
        for (int i = 1; i <= 20; i++) {
            due("feed " + i, x.feed(1, 2, 3, 4, 5), 20 * i);
        }
        due("feed 21", x.feed(1, 2, 3, 4, 5), NONE);
        due("count(4)", x.count(4), 400);
        due("end(381)", x.end(381), 381);
        due("feed", x.feed(0, 0, 0, 0, 0), NONE);
        due("end(380)", x.end(380), 380);
        due("feed", x.feed(0, 0, 0, 0, 0), 400);
        due("status()", x.status(), 0);
        x.end(0);
        // Bytes 1 2 3 4, then 5 6 7 8, then 31 0 0 255 of which the last is WORN.
        x.feed(0x01020304, 0x05060708, 0x1f0000ff, 0, 0);
        x.end(12);
        due("row()", x.row(), 11);
        int[] rises = {1, 2, 3, 4, 5, 6, 7, 8, 31, 0, 0, 0};
        for (int p = 0; p < rises.length; p++) {
            due("rise at " + p, x.rise(p, 0), rises[p]);
        }
    }

    private static void p09() {
        promise = 9;
        RoadWater x = new RoadWater();
        due("end(0)", x.end(0), 0);
        due("end(1)", x.end(1), NONE);
        x.feed(0, 0, 0, 0, 0);
        due("end(21)", x.end(21), NONE);
        due("end(-1)", x.end(-1), NONE);
        due("end(LOW)", x.end(LOW), NONE);
        due("end(HIGH)", x.end(HIGH), NONE);
        due("end(20)", x.end(20), 20);
        due("end(7)", x.end(7), 7);
        due("end(8)", x.end(8), NONE);
        due("feed", x.feed(0, 0, 0, 0, 0), 27);
    }

    private static void p10() {
        promise = 10;
        RoadWater x = new RoadWater();
        due("row() of an empty tape", x.row(), -6);
        x.rise(1, 9);
        x.rise(5, 6);
        feed(x, new byte[] {3, 32, 31, (byte) 128, 0});
        due("row()", x.row(), 3);
        due("count(4)", x.count(4), 0);
        int[] rises = {3, 9, 31, 0, 0, 6};
        for (int p = 0; p < rises.length; p++) {
            due("rise at " + p, x.rise(p, 0), rises[p]);
        }
        byte[] much = new byte[400];
        java.util.Arrays.fill(much, (byte) 2);
        feed(x, much);
        due("row() of 400", x.row(), 64);
        due("count(3)", x.count(3), 64);
        feed(x, new byte[] {(byte) 200});
        due("row() of worn bytes alone", x.row(), 0);
        due("status()", x.status(), 0);
        RoadWater y = under("warm 50 + rise");
        due("warm ahead", y.warm(2, 0, 0), 50);
        feed(y, new byte[] {1, 2, 4});
        y.row();
        due("warm behind", y.warm(2, 0, 0), 54);
    }

    private static void p11() {
        promise = 11;
        RoadWater x = new RoadWater();
        x.row();
        due("worn()", x.worn(), 0);
        byte[] bytes = new byte[70];
        bytes[3] = 32;
        bytes[69] = 99;
        feed(x, bytes);
        due("row()", x.row(), 63);
        due("worn()", x.worn(), 7);
        x.row();
        due("worn() behind a REFUSED one", x.worn(), 7);
        x.image(0);
        feed(x, new byte[] {1});
        x.row();
        due("worn()", x.worn(), 0);
        feed(x, new byte[] {77, 1});
        x.row();
        x.back(0);
        due("worn() is not kept", x.worn(), 1);
    }

    private static void p12() {
        promise = 12;
        RoadWater x = new RoadWater();
        due("law() of an empty tape", x.law(), -6);
        due("fault()", x.fault(), 0);
        for (int i = 0; i < 6; i++) {
            due("law " + i, law(x, "warm " + i), i);
            due("tape", x.count(4), 0);
        }
        due("law 6", law(x, "warm 7"), -5);
        due("tape", x.count(4), 0);
        due("no room is seen ahead of the text", law(x, "warm"), -5);
        due("fault()", x.fault(), NONE);
        due("law() of an empty tape", x.law(), -5);
        x.force(5);
        due("warm", x.warm(0, 0, 0), 5);
    }

    private static void p13() {
        promise = 13;
        fault("warm 1", NONE);
        fault("  warm1  ", NONE);
        fault("", 0);
        fault("   ", 3);
        fault("warm", 4);
        fault("warm  ", 6);
        fault("war 1", 0);
        fault("Warm 1", 0);
        fault("warm 1 2", 7);
        fault("warm 1;", 7);
        fault("warm 1;;", 7);
        fault("warm -1", 5);
        fault("warm 1000", NONE);
        fault("warm 0001000", NONE);
        fault("warm 1001", 5);
        fault("warm 10000", 5);
        fault("warm 99999999999999999999", 5);
        fault("warmz 1", 0);
        fault("zwarm 1", 0);
        fault("warm`1", 4);
        fault("warm{1", 4);
        fault("warm/1", 4);
        fault("warm:1", 4);
        fault("xarm 1", 0);
        fault("warm xnch", 5);
        fault("if 1", 0);
        fault("warm 1 warm 1<2", 7);
        fault("warm 1 if 1<2 not 2<3", 14);
        fault("warm 1*;warm 1", 7);
        fault("warm 1+;warm 1", 7);
        fault("warm 1 if 1<;warm 1", 12);
        fault("warm 1 if 1<2 or;warm 1", 16);
        fault("warm 1 if 1<2 and;warm 1", 17);
        fault("warm 1 if not;warm 1", 13);
        fault("warm 1 + ", 9);
        fault("warm [1", 7);
        fault("warm [1)", 7);
        fault("warm (1)", 5);
        fault("warm inches", 5);
        fault("warm inch2", 9);
        fault("warm 2inch", 6);
        fault("warm inch*above/place+ground-rise*hour", NONE);
        fault("warm 1 if", 9);
        fault("warm 1 if 2", 11);
        fault("warm 1 if 2 <", 13);
        fault("warm 1 if 2 < 3 < 4", 16);
        fault("warm 1 if (2) < 3", 12);
        fault("warm 1 if [2] < 3", NONE);
        fault("warm 1 if not 2 < 3 and (4 > 5 or not not 6 = 7)", NONE);
        fault("warm 1 if 2 < 3 and", 19);
        fault("warm 1 if 2 < 3 or ;", 19);
        fault("warm 1 if 2 < 3 if 4 < 5", 16);
        fault("warm 1 if 2 <= 3", 13);
        fault("warm 1\t", 6);
        fault("warm 1 \u00e9", 7);
        fault("warm 1 if (1 < 2", 16);
        fault("warm 1 if (1 < 2]", 16);
        fault("warm 1 if warm", 10);
        bounds();
        RoadWater x = new RoadWater();
        law(x, "warm 1 2");
        x.image(0);
        law(x, "warm 3");
        due("fault()", x.fault(), NONE);
        law(x, "war");
        x.back(0);
        due("fault() is not kept", x.fault(), 0);
    }

    private static void bounds() {
        String twelve = times(11, "warm 1;") + "warm 1";
        fault(twelve, NONE);
        fault(twelve + ";", 84);
        fault(twelve + "; warm 1", 85);
        fault(twelve + "; x", 85);
        String fifty = "warm 1" + times(49, "+1");
        fault(fifty, NONE);
        fault(fifty + "+1", 105);
        fault(fifty + "+x", 105);
        fault(fifty + "+", 105);
        fault(fifty + ";warm inch", 110);
        fault("warm " + times(8, "[") + "1" + times(8, "]"), NONE);
        fault("warm " + times(9, "[") + "1" + times(9, "]"), 13);
        fault("warm 1 if " + times(8, "(") + "1<2" + times(8, ")"), NONE);
        fault("warm 1 if " + times(9, "(") + "1<2" + times(9, ")"), 18);
        fault("warm 1 if " + times(7, "(") + "[1]<2" + times(7, ")"), NONE);
        fault("warm 1 if " + times(7, "(") + "[[1]]<2" + times(7, ")"), 18);
        fault("warm [1]" + times(30, "*[1]"), NONE);
        fault("warm 1 if " + times(96, "not ") + "1<2", NONE);
        fault("warm 1" + times(394, " "), NONE);
        fault(times(400, "("), 0);
        fault("warm " + times(395, "["), 13);
        RoadWater x = under("warm" + times(48, "[[[1]]]+") + "[[[[[1]]]]] ");
        due("a full TAPE", x.warm(0, 0, 0), 49);
        // What stood behind the end of the TAPE is no part of the TEXT, nor is what an earlier one had.
        x.feed(0x7761726d, 0x20696e63, 0x68657320, 0, 0);
        x.end(9);
        due("warm inch|es", x.law(), 1);
        due("50 PARTS", law(x, "warm 1" + times(49, "+1")), 2);
        due("50 PARTS", law(x, "warm 1" + times(49, "+1")), 3);
        due("12 CLAUSES", law(x, times(11, "warm 1;") + "warm 2"), 4);
        due("12 CLAUSES", law(x, times(11, "warm 1;") + "warm 3"), 5);
        for (int i = 1; i < 6; i++) {
            x.force(i);
            due("law " + i, x.warm(0, 7, 0), new int[] {0, 7, 50, 50, 2, 3}[i]);
        }
    }

    private static void p14() {
        promise = 14;
        RoadWater x = new RoadWater();
        due("force(NONE)", x.force(NONE), NONE);
        due("status()", x.status(), 0);
        due("force(0)", x.force(0), -2);
        law(x, "warm 20");
        law(x, "warm 30");
        due("warm: a law is not in force by itself", x.warm(0, 0, 0), 10);
        due("force(1)", x.force(1), NONE);
        due("warm", x.warm(0, 0, 0), 30);
        due("force(0)", x.force(0), 1);
        due("warm", x.warm(0, 0, 0), 20);
        due("force(2)", x.force(2), -2);
        due("force(-2)", x.force(-2), -2);
        due("force(HIGH)", x.force(HIGH), -2);
        due("count(10)", x.count(10), 0);
        due("force(NONE)", x.force(NONE), 0);
        due("warm", x.warm(0, 0, 0), 10);
    }

    private static void p15() {
        promise = 15;
        // Asked of PLACE 7 with RISE 3 and GROUND 4, INCH 5, HOUR 9.
        told("warm inch", 5);
        told("warm above", 2);
        told("warm place", 7);
        told("warm ground", 4);
        told("warm rise", 3);
        told("warm hour", 9);
        told("warm 1 + 2 * 3 - 4 / 3", 6);
        told("warm 20 - 5 - 4", 11);
        told("warm 24 / 5 * 5", 20);
        told("warm [1 + 2] * 3", 9);
        told("warm [0 - 7] / 2", -3);
        told("warm 99 + 1", 99);
        told("warm 0 - 51", -50);
        told("warm 20; warm 30 if inch = 5; warm 40 if inch > 5", 30);
        told("warm 20; warm 30 if inch < 5", 20);
        told("warm 20 if inch < 5", 10);
        told("warm 20; warm 1 / [inch - 5]", 20);
        told("warm 20; warm 30 if 1 / [inch - 5] = 0", 20);
        told("warm 20; warm 30 if not 1 / [inch - 5] = 0", 20);
        told("warm 1000 * 1000 * 1000 / 1000 / 1000 / 50", 20);
        told("warm 20; warm 1000 * 1000 * 1000 + 1", 20);
        told("warm 20; warm 1000 * 1000 * 1000 + 1 - 1", 20);
        told("warm 20; warm 0 - 1000 * 1000 * 1000 - 1", 20);
        told("warm 0 - 1000 * 1000 * 1000", -50);
        told("warm 20; warm 30 if 1 = 1 or 1 / 0 = 1", 30);
        told("warm 20; warm 30 if 1 / 0 = 1 or 1 = 1", 20);
        told("warm 20; warm 30 if not (1 = 2 and 1 / 0 = 1)", 30);
        told("warm 20; warm 30 if 1 = 1 and 1 / 0 = 1", 20);
        told("warm 20; warm 30 if 1 = 2 or 1 / 0 = 1", 20);
        told("warm 20; warm 30 if 1 = 2 and 1 / 0 = 1 or 2 = 2", 30);
        told("warm 20; warm 30 if 1 = 1 or 1 = 1 and 1 = 2", 30);
        told("warm 20; warm 30 if (1 = 1 or 1 = 1) and 1 = 2", 20);
        told("warm 20; warm 30 if not 1 = 2 and 1 = 2", 20);
        told("warm 20; warm 30 if not not not 1 = 2", 30);
        told("warm 20; warm 1 / 0 if 1 = 2", 20);
        told("warm 20; warm 30 if not (not 1 = 1)", 30);
        told("warm 20; warm 30 if not (1 = 1) or not (1 = 2)", 30);
        told("warm 20; warm 30 if 1 = 2 or 1 = 3 or 2 = 2", 30);
        told("warm 20; warm 30 if 1 = 1 and 2 = 2 and 1 = 2", 20);
        RoadWater x = under("warm hour + inch * 2 - place");
        due("warm(0, 0, 0)", x.warm(0, 0, 0), 0);
        due("warm(63, 31, 23)", x.warm(63, 31, 23), 22);
        due("the HOUR of the TERMS is not asked", x.warm(0, 0, 23), 23);
        int[][] bad = {{-1, 0, 0}, {64, 0, 0}, {0, -1, 0}, {0, 32, 0}, {0, 0, -1}, {0, 0, 24}, {LOW, HIGH, LOW}};
        for (int[] b : bad) {
            due("warm(" + b[0] + ", " + b[1] + ", " + b[2] + ")", x.warm(b[0], b[1], b[2]), NOTHING);
        }
    }

    private static void ray(RoadWater x, int angle, int... want) {
        for (int what = 0; what < want.length; what++) {
            due("ray(" + angle + ", " + what + ")", x.ray(angle, what), want[what]);
        }
    }

    private static void p16() {
        promise = 16;
        RoadWater x = new RoadWater();
        x.rise(10, 12);
        x.thing(20, 3);
        x.rise(20, 5);
        // 1650 - 45 * 10 is 1200: not below the RISE; 1650 - 45 * 20 is 750 on a RISE of 500.
        ray(x, -45, 1, 20, 0, 2, 750, 750, 0, -45);
        ray(x, -46, 0, 10, NONE, NONE, 1190, 1190, 0, -46);
        // 1650 - 42 * 20 is 810: above the THING's top at 800, then on to 0 = 1650 - 42 * 39 - 12 at PLACE 39.
        ray(x, -42, 0, 40, NONE, NONE, -30, -30, 0, -42);
        // 1650 + 31 * 50 is 3200.
        ray(x, 31, 2, 50, NONE, NONE, 3200, 1650, 0, 31);
        ray(x, 500, 2, 4, NONE, NONE, 3650, 1650, 0, 500);
        ray(x, -500, 0, 4, NONE, NONE, -350, -350, 0, -500);
        due("ray(-501, 0)", x.ray(-501, 0), NOTHING);
        due("ray(501, 0)", x.ray(501, 0), NOTHING);
        due("ray(0, -1)", x.ray(0, -1), NOTHING);
        due("ray(0, 8)", x.ray(0, 8), NOTHING);
        due("ray(LOW, HIGH)", x.ray(LOW, HIGH), NOTHING);
        bentRays();
        RoadWater z = new RoadWater();
        z.terms(2, 63);
        z.rise(63, 31);
        z.thing(63, 31);
        z.terms(3, 0);
        ray(z, -77, 2, 63, NONE, NONE, 50, 50, 0, -77);
        RoadWater w = new RoadWater();
        w.terms(2, 62);
        w.thing(62, 31);
        w.thing(63, 17);
        ray(w, 0, 1, 63, 1, 16, 1650, 1650, 0, 0);
        ray(w, 50, 2, 63, NONE, NONE, 1700, 1650, 0, 50);
    }

    private static void bentRays() {
        // Below INCH 8 it is 10 warmer: the RAY is lifted by 10 at each PLACE where it is at INCH 7 or 8.
        RoadWater x = under("warm 20 if inch < 8");
        x.terms(3, 8);
        // 850 840 840 850 870 900: SLOPE -10 0 10 20 30, and no more above INCH 8.
        ray(x, -10, 2, 63, NONE, NONE, 900 + 30 * 58, 840, 1, 30);
        due("at 1", x.at(-10, 1), 840);
        due("at 2", x.at(-10, 2), 840);
        due("at 5", x.at(-10, 5), 900);
        // ANGLE 0 has no side from which it could turn.
        due("turns of 0", x.ray(0, 6), 0);
        due("from -9 to 1", x.ray(-9, 6), 1);
        x.terms(2, 61);
        // 845 at 62, SLOPE 5, 850 at 63: there it ENDS and is not lifted any more.
        ray(x, -5, 2, 63, NONE, NONE, 850, 845, 1, 5);
        x.terms(2, 0);
        x.terms(1, 9);
        // SLOPE -500 at 350: out of reach of the edge, then GROUND.
        ray(x, -500, 0, 2, NONE, NONE, -150, -150, 0, -500);
        // The nearest INCH stands in for one beyond 0 and 31.
        RoadWater y = under("warm 30 - inch");
        y.terms(3, 0);
        // INCH 0: 30 - 29 is 1; each INCH higher 2.
        due("slope at INCH 0", y.at(0, 2), 51);
        due("slope at INCH 0", y.at(0, 3), 53);
        RoadWater z = under("warm inch * 2");
        z.terms(3, 31);
        due("slope at INCH 31", z.at(0, 2), 3150 - 2);
        due("slope at INCH 31", z.at(0, 3), 3150 - 2 - 4);
        // -50 to 99: 149 a PLACE times 9 is 1341 more; at 1341 + 1341 it is held to 2000.
        RoadWater w = under("warm 99 if inch < 16; warm 0 - 50 if inch > 15");
        w.terms(1, 9);
        w.terms(3, 15);
        due("steep once", w.ray(0, 7), 1341);
        // 1550 + 0 at PLACE 1, SLOPE 1341, 2891 at 2 (no difference there), SKY at 3.
        ray(w, 0, 2, 3, NONE, NONE, 4232, 1550, 0, 1341);
        // 2050 - 500 is 1550; SLOPE 841; SKY at PLACE 3.
        w.terms(3, 20);
        ray(w, -500, 2, 3, NONE, NONE, 1550 + 841 + 841, 1550, 1, 841);
        held();
    }

    private static void held() {
        RoadWater x = under("warm 99 if inch = 4 or inch = 22; warm 0 - 50 if inch = 6 or inch = 24");
        x.terms(1, 9);
        x.terms(3, 0);
        // 550, SLOPE 500 + 1341; 2391, SLOPE 1841 + 1341: the nearest is 2000.
        ray(x, 500, 2, 3, NONE, NONE, 2391 + 2000, 50, 0, 2000);
        RoadWater y = under("warm 99 if inch = 9 or inch = 27; warm 0 - 50 if inch = 7 or inch = 25");
        y.terms(1, 9);
        y.terms(3, 31);
        // 2650, SLOPE -500 - 1341; 809, SLOPE -2000.
        ray(y, -500, 0, 3, NONE, NONE, 809 - 2000, 809 - 2000, 0, -2000);
        // Up by 10 a PLACE and down again: 850 860, SLOPE 0; 860, SLOPE -10; 850, SLOPE -20.
        RoadWater z = under("warm 20 if inch > 8");
        z.terms(3, 8);
        due("at 2", z.at(10, 2), 860);
        due("at 4", z.at(10, 4), 830);
        due("one turn over 0", z.ray(10, 6), 1);
    }

    /** By ANGLE 100 alone a RAY is at 200, the RISE of PLACE 2; all others END in the GROUND ahead or there. */
    private static RoadWater steepest() {
        // 50 + a at PLACE 1; at INCH 1 the SLOPE becomes a - 50: 2 a at PLACE 2; at INCH 0 a stays.
        RoadWater x = under("warm 60 if inch = 2 and place = 1");
        x.terms(3, 0);
        x.rise(2, 2);
        x.thing(1, 1);
        x.move(0, 0);
        return x;
    }

    /** By ANGLE -100 alone a RAY is at 99 at PLACE 62, from where it is thrown up to 1091 at PLACE 63. */
    private static RoadWater lowest() {
        // 250 + a at PLACE 61; at INCH 1 the SLOPE becomes a + 49: 299 + 2 a at PLACE 62. There odd INCHES are -50,
        // even ones 99: only at INCH 0 (and 31) is there a difference, 149.
        RoadWater x = under("warm 17 if inch = 0 and place = 61;"
                + "warm 99 - [inch - inch / 2 * 2] * 149 if place = 62");
        x.terms(1, 7);
        x.terms(2, 60);
        x.terms(3, 2);
        return x;
    }

    private static void p17() {
        promise = 17;
        RoadWater x = new RoadWater();
        x.terms(2, 10);
        x.thing(30, 31);
        due("at(-5, 10)", x.at(-5, 10), 1650);
        due("at(-5, 9)", x.at(-5, 9), NOTHING);
        due("at(-5, 11)", x.at(-5, 11), 1645);
        due("at(-5, 30): it ends there", x.at(-5, 30), 1550);
        due("at(-5, 31)", x.at(-5, 31), NOTHING);
        due("at(-100, 27): below the GROUND", x.at(-100, 27), -50);
        due("at(-100, 28)", x.at(-100, 28), NOTHING);
        due("at(500, 14)", x.at(500, 14), 3650);
        due("at(501, 10)", x.at(501, 10), NOTHING);
        due("at(-501, 10)", x.at(-501, 10), NOTHING);
        due("at(0, 64)", x.at(0, 64), NOTHING);
        due("at(0, -1)", x.at(0, -1), NOTHING);
        due("at(0, HIGH)", x.at(0, HIGH), NOTHING);
    }

    private static void p18() {
        promise = 18;
        RoadWater x = new RoadWater();
        x.thing(10, 10);
        x.thing(0, 31);
        x.terms(3, 4);
        // 450 + 10 a is 0 .. 999 for a from -45 to 54.
        due("seen(0)", x.seen(0), 100);
        due("a THING at the EYE's PLACE", x.seen(1), 0);
        x.terms(2, 11);
        due("a THING ahead of the EYE", x.seen(0), 0);
        x.terms(2, 9);
        // 450 + a is 350 .. 550 for all.
        due("all of the FIELD", x.seen(0), 201);
        due("seen(2)", x.seen(2), NONE);
        due("seen(-1)", x.seen(-1), NONE);
        due("seen(LOW)", x.seen(LOW), NONE);
        RoadWater y = lowest();
        y.thing(63, 5);
        y.rise(63, 10);
        due("by -100 alone", y.seen(0), 1);
        RoadWater z = steepest();
        z.move(0, 2);
        due("by 100 alone", z.seen(0), 1);
        due("by 100 alone", z.picture(0, 0, 0), 100);
    }

    /** Air that lifts RAYS below INCH 7: PICTURES of one THING, one of them ON ITS HEAD. */
    private static RoadWater mirage() {
        RoadWater x = under("warm 12 - above * 3 if above < 7");
        x.terms(3, 10);
        x.thing(50, 12);
        return x;
    }

    private static void p19() {
        promise = 19;
        RoadWater x = new RoadWater();
        due("pictures(0)", x.pictures(0), NONE);
        x.thing(20, 10);
        due("pictures(0)", x.pictures(0), 1);
        // At PLACE 10 1400 at least: ANGLE -25, 1150 at PLACE 20.
        x.thing(10, 14);
        due("one before it", x.pictures(0), 0);
        due("one before it", x.pictures(1), 1);
        x.move(1, 30);
        due("one behind it", x.pictures(0), 1);
        due("pictures(-1)", x.pictures(-1), NONE);
        due("pictures(2)", x.pictures(2), NONE);
        RoadWater y = mirage();
        due("upright and on its head", y.pictures(0), 4);
        y.terms(1, 0);
        due("without BEND", y.pictures(0), 1);
    }

    private static void p20() {
        promise = 20;
        RoadWater x = new RoadWater();
        x.thing(20, 10);
        int[] one = {-82, -33, 1, 0, 9};
        for (int what = 0; what < 5; what++) {
            due("picture(0, 0, " + what + ")", x.picture(0, 0, what), one[what]);
        }
        due("picture(0, 0, 5)", x.picture(0, 0, 5), NOTHING);
        due("picture(0, 0, -1)", x.picture(0, 0, -1), NOTHING);
        due("picture(0, 1, 0)", x.picture(0, 1, 0), NOTHING);
        due("picture(0, -1, 0)", x.picture(0, -1, 0), NOTHING);
        due("picture(1, 0, 0)", x.picture(1, 0, 0), NOTHING);
        due("picture(-1, 0, 0)", x.picture(-1, 0, 0), NOTHING);
        due("picture(HIGH, LOW, HIGH)", x.picture(HIGH, LOW, HIGH), NOTHING);
        x.rise(20, 31);
        // One INCH from 3100 on: 1650 + 20 a is 3110 .. 3190 for a from 73 to 77.
        int[] two = {73, 77, 0, 0, 0};
        for (int what = 0; what < 5; what++) {
            due("picture on 31, " + what, x.picture(0, 0, what), two[what]);
        }
        edges();
        RoadWater y = mirage();
        int[][] four = {{-38, -33, 1, 6, 11}, {-31, -30, 1, 3, 11}, {-19, -10, 2, 4, 9}, {-7, 2, 1, 0, 11}};
        for (int i = 0; i < 4; i++) {
            for (int what = 0; what < 5; what++) {
                due("picture(0, " + i + ", " + what + ")", y.picture(0, i, what), four[i][what]);
            }
        }
        due("the INCH of its lowest ANGLE", y.ray(-19, 3), 9);
        due("the INCH of its highest ANGLE", y.ray(-10, 3), 4);
        due("no INCH beside it", y.ray(-9, 3), NONE);
    }

    private static void edges() {
        RoadWater x = new RoadWater();
        x.terms(2, 62);
        x.thing(63, 31);
        due("lowest of the FIELD", x.picture(0, 0, 0), -100);
        due("highest of the FIELD", x.picture(0, 0, 1), 100);
        due("upright", x.picture(0, 0, 2), 1);
        // 1550 .. 1750.
        due("least", x.picture(0, 0, 3), 15);
        due("greatest", x.picture(0, 0, 4), 17);
    }

    private static void p21() {
        promise = 21;
        RoadWater x = new RoadWater();
        x.thing(20, 10);
        due("hidden(0)", x.hidden(0), 0);
        x.rise(10, 12);
        // At PLACE 10 1200 at least: ANGLE -45, 750 at PLACE 20.
        due("hidden(0)", x.hidden(0), 127);
        x.terms(2, 30);
        due("all of it", x.hidden(0), 1023);
        x.rise(20, 28);
        due("what is not there is not hidden", x.hidden(0), 15);
        due("hidden(1)", x.hidden(1), NONE);
        due("hidden(-1)", x.hidden(-1), NONE);
        RoadWater y = new RoadWater();
        y.thing(0, 31);
        due("31 INCHES", y.hidden(0), HIGH);
        RoadWater z = new RoadWater();
        z.terms(2, 62);
        z.thing(63, 31);
        // INCHES 15, 16, 17 are SEEN.
        due("63 from 62", z.hidden(0), HIGH - (7 << 15));
        RoadWater w = lowest();
        w.thing(63, 5);
        w.rise(63, 10);
        due("INCH 0 is SEEN by -100", w.hidden(0), 30);
        RoadWater v = steepest();
        v.move(0, 2);
        due("INCH 0 is SEEN by 100", v.hidden(0), 0);
    }

    private static void p22() {
        promise = 22;
        RoadWater x = new RoadWater();
        x.thing(30, 31);
        due("no water(0)", x.water(0), 0);
        for (int what = 1; what <= 3; what++) {
            due("no water(" + what + ")", x.water(what), NOTHING);
        }
        RoadWater y = new RoadWater();
        y.terms(2, 63);
        int[] all = {100, -1, -100, 63};
        for (int what = 0; what < 4; what++) {
            due("water(" + what + ") from 63", y.water(what), all[what]);
        }
        due("water(-1)", y.water(-1), NOTHING);
        due("water(4)", y.water(4), NOTHING);
        // 850 840 840 850 ..: the first lowest PLACE of -10 is 1; -1 is at 849, then lifted at once.
        RoadWater z = under("warm 20 if inch < 8");
        z.terms(3, 8);
        due("highest", z.water(1), -1);
        due("its lowest PLACE", z.water(3), 1);
        z.thing(1, 8);
        z.rise(1, 0);
        z.thing(2, 9);
        z.terms(1, 0);
        z.move(1, 63);
        // Straight: 850 - 63 a above 0 and the THING of 900 at 63 stops all.
        due("none past the THING", z.water(0), 0);
        z.move(1, 0);
        // ANGLE -13: 850 - 819 is 31; -14 ends in the GROUND.
        due("straight", z.water(0), 13);
        due("straight", z.water(2), -13);
        due("straight", z.water(3), 63);
        RoadWater w = lowest();
        w.thing(63, 10);
        int[] one = {1, -100, -100, 62};
        for (int what = 0; what < 4; what++) {
            due("water(" + what + ") of -100", w.water(what), one[what]);
        }
        // ANGLE -1: 849, SLOPE 0, 849 again.
        RoadWater v = under("warm 11 if inch < 8");
        v.terms(3, 8);
        due("at 1", v.at(-1, 1), 849);
        due("at 2", v.at(-1, 2), 849);
        due("the first of them", v.water(3), 1);
        RoadWater u = new RoadWater();
        u.terms(2, 62);
        u.thing(63, 17);
        // 1650 + a below 1700: all below 0 END in the THING; ANGLE 0 does, too.
        due("water(0)", u.water(0), 0);
        u.rise(63, 16);
        u.move(0, 0);
        // ANGLES -50 .. -1, and 0, which is no WATER.
        due("water(0)", u.water(0), 50);
        due("water(1)", u.water(1), -1);
        due("water(2)", u.water(2), -50);
    }

    private static void p23() {
        promise = 23;
        RoadWater x = new RoadWater();
        due("horizon()", x.horizon(), -27);
        x.rise(1, 31);
        // 1650 + 100 is below 3100: all.
        due("a wall", x.horizon(), 100);
        x.rise(1, 0);
        x.rise(20, 20);
        // 1650 + 20 a below 2000: a up to 17.
        due("a hill", x.horizon(), 17);
        x.terms(2, 63);
        due("from 63", x.horizon(), NOTHING);
        due("all but 100", steepest().horizon(), 99);
        // 59 - 10 is 49 more at INCH 1 of PLACE 62: 99 at PLACE 63 by -100, 101 by -99.
        RoadWater y = under("warm 59 if inch = 0");
        y.terms(2, 61);
        y.terms(3, 2);
        y.rise(63, 1);
        due("-100 alone", y.horizon(), -100);
    }

    private static void p24() {
        promise = 24;
        RoadWater x = new RoadWater();
        due("aim(0, 0)", x.aim(0, 0), NOTHING);
        x.thing(20, 10);
        due("aim(0, 0)", x.aim(0, 0), -82);
        // 1650 - 20 * 77 is 110.
        due("aim(0, 1)", x.aim(0, 1), -77);
        due("aim(0, 9)", x.aim(0, 9), -37);
        due("aim(0, 10)", x.aim(0, 10), NOTHING);
        due("aim(0, -1)", x.aim(0, -1), NOTHING);
        due("aim(-1, -1)", x.aim(-1, -1), NOTHING);
        due("aim(1, 0)", x.aim(1, 0), NOTHING);
        due("aim(0, HIGH)", x.aim(0, HIGH), NOTHING);
        RoadWater y = lowest();
        y.thing(63, 31);
        due("by -100", y.aim(0, 10), -100);
        RoadWater z = steepest();
        z.move(0, 2);
        due("by 100", z.aim(0, 0), 100);
    }

    private static void p25() {
        promise = 25;
        // One warmer below than above everywhere: SLOPE 2 more at each PLACE.
        RoadWater x = under("warm 40 - inch");
        x.thing(10, 5);
        // At PLACE 10 1650 + 10 a + 2 * (9 + 8 + .. + 1): 90 more, that is 9 ANGLES lower. INCH 4 from 400 on:
        // 1740 - 10 * 100 is 740: it is not SEEN any more.
        due("loom(0, 4) out of the FIELD", x.loom(0, 4), NOTHING);
        x.terms(3, 10);
        // 1050 + 10 a: INCH 4 from -65 on, with BEND from -74 on (1140 - 740).
        due("aim(0, 4)", x.aim(0, 4), -74);
        due("loom(0, 4)", x.loom(0, 4), -9);
        due("TERMS are as they were", x.count(12), 1);
        due("aim(0, 4)", x.aim(0, 4), -74);
        x.terms(1, 0);
        due("loom(0, 4) without BEND", x.loom(0, 4), 0);
        due("loom(0, 5)", x.loom(0, 5), NOTHING);
        due("loom(1, 0)", x.loom(1, 0), NOTHING);
        due("loom(-1, -1)", x.loom(-1, -1), NOTHING);
    }

    private static void p26() {
        promise = 26;
        RoadWater x = new RoadWater();
        due("shade(10)", x.shade(10), 650);
        due("shade(30)", x.shade(30), 0);
        due("shade(0)", x.shade(0), 1650);
        x.rise(10, 7);
        due("shade(10) on 7", x.shade(10), 700);
        x.rise(0, 17);
        due("shade(0), the EYE in the GROUND", x.shade(0), NOTHING);
        x.terms(2, 10);
        due("shade(9)", x.shade(9), NOTHING);
        due("shade(64)", x.shade(64), NOTHING);
        due("shade(-1)", x.shade(-1), NOTHING);
        x.rise(11, 31);
        due("shade(12) behind a wall", x.shade(12), NOTHING);
        due("shade(11), a wall", x.shade(11), NOTHING);
        RoadWater y = new RoadWater();
        y.terms(3, 31);
        y.rise(1, 31);
        // 3150 + 50 is SKY at PLACE 1, but it comes there; 3150 - 50 is the lowest.
        due("shade(1)", y.shade(1), 3100);
        y.rise(2, 31);
        due("shade(2)", y.shade(2), 3100);
        due("by 100 alone", steepest().shade(2), 200);
        RoadWater z = lowest();
        z.rise(62, 1);
        due("by -99, as -100 is in the GROUND", z.shade(62), 101);
        z.rise(62, 0);
        due("by -100", z.shade(62), 99);
        RoadWater w = new RoadWater();
        w.terms(3, 31);
        w.rise(1, 31);
        w.rise(2, 31);
        w.thing(1, 1);
        // All up to 49 are stopped at PLACE 1, all others are in the SKY there.
        due("none comes to 2", w.shade(2), NOTHING);
        w.move(0, 2);
        due("shade(1)", w.shade(1), 3100);
    }

    private static void p27() {
        promise = 27;
        RoadWater x = new RoadWater();
        due("cross(-10, 10)", x.cross(-10, 10), NONE);
        due("cross(5, 5)", x.cross(5, 5), NONE);
        due("cross(501, 0)", x.cross(501, 0), NONE);
        due("cross(0, -501)", x.cross(0, -501), NONE);
        due("cross(LOW, HIGH)", x.cross(LOW, HIGH), NONE);
        // Below INCH 8 lifted by 10 at INCHES 7 and 8.
        RoadWater y = under("warm 20 if inch < 8");
        y.terms(3, 8);
        // 60: 850 910, no lift: 970 1030. 40: 850 890 (lifted to 50) 940 990. Still lower at 2: 970 > 940; the
        // difference grows: never.
        due("cross(60, 40)", y.cross(60, 40), NONE);
        y.terms(1, 9);
        // 60: 910 970 1030; 40: 890, SLOPE 130, 1020 at PLACE 2.
        due("cross(60, 40)", y.cross(60, 40), 2);
        due("cross(40, 60)", y.cross(40, 60), 2);
        y.terms(1, 2);
        // 60: 910 970 1030 ..; 40: 890, SLOPE 60, 950: 20 lower for good.
        due("cross(40, 60), side by side", y.cross(40, 60), NONE);
        y.terms(1, 3);
        // 40: 890, SLOPE 70, 960 1030: not higher at PLACE 3 (1030 and 1030).
        due("cross(40, 60), as high", y.cross(40, 60), 3);
        y.terms(2, 60);
        due("cross(40, 60) from 60", y.cross(40, 60), 63);
        y.terms(2, 61);
        due("cross(40, 60) from 61", y.cross(40, 60), NONE);
        y.terms(2, 0);
        y.thing(2, 31);
        due("both end at 2", y.cross(40, 60), NONE);
        // By -501 a RAY would be thrown from 349 up to 1189 at PLACE 2, by 501 from 1351 down to 511.
        RoadWater z = under("warm 99 if inch = 2 or inch = 14; warm 0 - 50 if inch = 4 or inch = 12");
        z.terms(1, 9);
        z.terms(3, 8);
        due("cross(-500, 0)", z.cross(-500, 0), 2);
        due("cross(-501, 0)", z.cross(-501, 0), NONE);
        due("cross(0, -501)", z.cross(0, -501), NONE);
        due("cross(500, 0)", z.cross(500, 0), 2);
        due("cross(501, 0)", z.cross(501, 0), NONE);
        due("cross(0, 501)", z.cross(0, 501), NONE);
    }

    private static void p28() {
        promise = 28;
        // Straight light sees it; from HOUR 18 on a lift at INCHES 9 to 11 carries all RAYS over it.
        RoadWater x = under("warm 99 - inch * 9 if hour > 17");
        x.thing(40, 1);
        x.terms(1, 9);
        due("hours(0)", x.hours(0), (1 << 18) - 1);
        due("HOUR is as it was", x.count(11), 12);
        x.force(NONE);
        due("hours(0)", x.hours(0), ALL_HOURS);
        x.move(0, 0);
        due("hours(0)", x.hours(0), 0);
        due("hours(1)", x.hours(1), NONE);
        due("hours(-1)", x.hours(-1), NONE);
        RoadWater y = lowest();
        y.thing(63, 5);
        y.rise(63, 10);
        due("by one RAY, a LAW without HOUR", y.hours(0), ALL_HOURS);
        y.terms(1, 6);
        due("by none", y.hours(0), 0);
        law(y, "warm 17 if inch = 0 and place = 61;"
                + "warm 99 - [inch - inch / 2 * 2] * 149 if place = 62 and (hour = 0 or hour = 23)");
        y.force(1);
        y.terms(1, 7);
        due("at 0 and 23", y.hours(0), 1 | 1 << 23);
        y.force(0);
        due("LAW 0 again", y.hours(0), ALL_HOURS);
    }

    private static void p29() {
        promise = 29;
        RoadWater x = new RoadWater();
        due("mark(5, 0)", x.mark(5, 0), 12);
        due("mark(5, 1)", x.mark(5, 1), 24);
        x.thing(12, 31);
        due("one is there, and is away for the others", x.mark(5, 0), 13);
        due("mark(17, 0)", x.mark(17, 0), 1);
        due("mark(31, 0)", x.mark(31, 0), 1);
        due("mark(0, 0)", x.mark(0, 0), NONE);
        due("mark(32, 0)", x.mark(32, 0), NONE);
        due("mark(5, 2)", x.mark(5, 2), NONE);
        due("mark(5, -1)", x.mark(5, -1), NONE);
        x.rise(1, 31);
        // Behind a wall nothing is SEEN, on it nothing (1750 at most): the lowest of those with 0 HOURS.
        due("a wall", x.mark(5, 0), 1);
        due("a wall", x.mark(5, 1), 0);
        x.terms(2, 63);
        due("from 63", x.mark(5, 0), NONE);
        due("from 63", x.mark(5, 1), NONE);
        x.terms(2, 62);
        x.thing(63, 1);
        due("63 is taken", x.mark(31, 0), NONE);
        due("63 is taken", x.mark(31, 1), NONE);
        // Straight, ANGLE -100 is at 50 at PLACE 16. Up to HOUR 5 it is lifted from 350 at PLACE 13 on.
        RoadWater y = under("warm 99 - inch * 9 if hour < 6 and place > 12");
        y.terms(1, 9);
        due("mark(1, 0)", y.mark(1, 0), 16);
        due("mark(1, 1)", y.mark(1, 1), 18);
        due("HOUR is as it was", y.count(11), 12);
        RoadWater z = new RoadWater();
        z.terms(2, 62);
        due("PLACE 63", z.mark(31, 0), 63);
        due("PLACE 63", z.mark(31, 1), 24);
        RoadWater w = steepest();
        w.move(0, 1);
        due("by 100 alone, just on the RISE", w.mark(1, 0), 2);
        due("by 100 alone, just on the RISE", w.mark(1, 1), 24);
        RoadWater v = justOver();
        due("just over it", v.mark(1, 1), 24);
        due("just over it", v.mark(1, 0), 3);
        due("in the SKY", skyEdge().mark(1, 0), 63);
        due("in the SKY", skyEdge().mark(1, 1), 0);
        due("in the SKY, below the THING's top", skyEdge().mark(2, 1), 0);
        due("just below the SKY", belowSky().mark(1, 0), 63);
        due("just below the SKY", belowSky().mark(1, 1), 24);
        due("just below its top", lowest().mark(1, 0), 62);
        due("just below its top", lowest().mark(1, 1), 24);
        due("below the RISE", belowRise().mark(5, 0), 63);
        due("below the RISE", belowRise().mark(5, 1), 0);
    }

    /** To PLACE 63 one RAY comes at 3199, just below the SKY; all others END in its RISE. */
    private static RoadWater belowSky() {
        // By -100: 2650 at 61, SLOPE -100 + 7 * 7; 2599 at 62, SLOPE -51 + 7 * 93; 3199 at 63. By the others 2601
        // and more at 62 and 3050 at most at 63.
        RoadWater x = under("warm 17 if inch = 25 and place = 61; warm 93 if inch = 24 and place = 62;"
                + "warm 0 if inch = 26 and place = 62");
        x.terms(1, 7);
        x.terms(2, 60);
        x.terms(3, 27);
        x.rise(63, 31);
        due("at(-100, 63)", x.at(-100, 63), 3199);
        due("at(-99, 63)", x.at(-99, 63), 2551);
        x.thing(61, 1);
        x.thing(62, 1);
        return x;
    }

    /** To PLACE 63 some RAYS come just below its RISE of 3100, at 3095 at most; no other one comes there. */
    private static RoadWater belowRise() {
        // 3150 + a at 62, from its RISE on up to the SKY: a from -50 to 49; at INCH 31 the SLOPE becomes a - 153.
        RoadWater x = under("warm 27 if inch = 31 and place = 62");
        x.terms(1, 9);
        x.terms(2, 61);
        x.terms(3, 31);
        x.rise(62, 31);
        x.rise(63, 31);
        due("at(49, 63)", x.at(49, 63), 3095);
        due("at(-50, 63)", x.at(-50, 63), 2897);
        due("at(-51, 63)", x.at(-51, 63), NOTHING);
        due("at(50, 63)", x.at(50, 63), NOTHING);
        x.thing(62, 1);
        return x;
    }

    /** By ANGLE -100 a RAY is at 100 at PLACE 2, by all others higher; behind that it is lower. */
    private static RoadWater justOver() {
        // 250 + a at PLACE 1; at INCH 1 the SLOPE becomes a + 50: 300 + 2 a at PLACE 2.
        RoadWater x = under("warm 60 if inch = 0 and place = 1");
        x.terms(3, 2);
        x.thing(1, 1);
        return x;
    }

    /** To PLACE 63 one RAY comes at 3200, the SKY's edge; all others END in its RISE. */
    private static RoadWater skyEdge() {
        // By -100: 2650 at 61, SLOPE -100 + 6 * 8; 2598 at 62, SLOPE -52 + 6 * 109; 3200 at 63. By the others 2600
        // and more at 62 and 3050 at most at 63.
        RoadWater x = under("warm 18 if inch = 25 and place = 61; warm 99 if inch = 24 and place = 62;"
                + "warm 0 - 10 if inch = 26 and place = 62");
        x.terms(1, 6);
        x.terms(2, 60);
        x.terms(3, 27);
        x.rise(63, 31);
        due("at(-100, 63)", x.at(-100, 63), 3200);
        x.thing(61, 1);
        x.thing(62, 1);
        return x;
    }

    private static void p30() {
        promise = 30;
        RoadWater x = under("warm 40 - inch if hour = 12");
        // SLOPE 2 more at each PLACE: 0, 2, 6, 12 at PLACES 1, 2, 3, 4.
        due("level(1)", x.level(1), 0);
        due("level(2)", x.level(2), 2);
        due("level(4)", x.level(4), 12);
        x.terms(0, 11);
        due("level(4) at 11", x.level(4), 0);
        due("level(0)", x.level(0), NOTHING);
        due("level(64)", x.level(64), NOTHING);
        due("level(-1)", x.level(-1), NOTHING);
        x.thing(30, 17);
        due("level(30): it ends there", x.level(30), 0);
        due("level(31)", x.level(31), NOTHING);
        x.terms(2, 29);
        due("level(29)", x.level(29), NOTHING);
        due("level(28)", x.level(28), NOTHING);
        due("level(30)", x.level(30), 0);
    }

    private static void p31() {
        promise = 31;
        RoadWater x = under("warm 40 + [inch - 16] * [hour - 15]");
        // Straight at 15 alone.
        due("best(40)", x.best(40), 15);
        due("best(1): straight up to there in all", x.best(1), 0);
        due("HOUR is as it was", x.count(11), 12);
        due("best(0)", x.best(0), NONE);
        due("best(64)", x.best(64), NONE);
        due("best(-1)", x.best(-1), NONE);
        x.terms(2, 40);
        due("best(40)", x.best(40), NONE);
        due("best(42)", x.best(42), 15);
        RoadWater y = under("warm 40 + [inch - 16] * [2 * hour - 15]");
        // At HOURS 7 and 8 as far from 0: the lowest.
        due("best(3)", y.best(3), 7);
        y.rise(5, 31);
        due("best(6)", y.best(6), NONE);
        // It falls by 10 more at each PLACE, but at 4 it goes straight on.
        RoadWater z = under("warm 40 + [inch - 16] * 5 if hour > 4 or hour < 4");
        due("the others are in the GROUND", z.best(30), 4);
        z.rise(30, 17);
        due("the RAY comes to the wall", z.best(30), 4);
        due("but not behind it", z.best(31), NONE);
    }

    private static void p32() {
        promise = 32;
        RoadWater x = new RoadWater();
        x.thing(20, 10);
        due("eyes(0, 0)", x.eyes(0, 0), 30);
        due("eyes(0, 1)", x.eyes(0, 1), 21);
        due("eyes(0, 2)", x.eyes(0, 2), 0);
        due("HEIGHT is as it was", x.count(14), 16);
        due("eyes(0, 3)", x.eyes(0, 3), NONE);
        due("eyes(0, -1)", x.eyes(0, -1), NONE);
        due("eyes(1, 0)", x.eyes(1, 0), NONE);
        due("eyes(-1, 0)", x.eyes(-1, 0), NONE);
        RoadWater y = mirage();
        int twice = 0;
        for (int height = 0; height < 32; height++) {
            y.terms(3, height);
            twice += y.pictures(0) >= 2 ? 1 : 0;
        }
        due("twice from somewhere", y.eyes(0, 2), twice);
        // From HEIGHTS 22 .. 24, 26 and 28 it has one; from 15, 17 and others two just.
        due("twice", twice, 27);
        y.terms(3, 15);
        due("two just", y.pictures(0), 2);
        y.terms(1, 0);
        due("never without BEND", y.eyes(0, 2), 0);
        RoadWater z = new RoadWater();
        z.terms(2, 62);
        z.thing(63, 1);
        // 100 h + 50 + a is 0 .. 99 for HEIGHTS 0 (a from -50 to 49) and 1 (from -100 to -51).
        due("eyes(0, 0)", z.eyes(0, 0), 2);
        due("eyes(0, 1)", z.eyes(0, 1), 2);
        RoadWater w = new RoadWater();
        w.thing(63, 1);
        // 100 h + 50 + 63 a is 0 .. 99 for one or two ANGLES from each HEIGHT.
        due("seen(0)", w.seen(0), 2);
        w.terms(3, 0);
        due("seen(0)", w.seen(0), 1);
        due("eyes(0, 0)", w.eyes(0, 0), 32);
        due("eyes(0, 1)", w.eyes(0, 1), 32);
    }

    private static void p33() {
        promise = 33;
        RoadWater x = new RoadWater();
        due("where(10, 1)", x.where(10, 1), 7);
        due("where(10, 0)", x.where(10, 0), 1);
        due("where(10, 2)", x.where(10, 2), NONE);
        x.thing(7, 1);
        x.thing(1, 31);
        due("one is there", x.where(10, 1), 8);
        due("no other counts", x.where(10, 0), 2);
        due("where(0, 0)", x.where(0, 0), NONE);
        due("where(32, 0)", x.where(32, 0), NONE);
        due("where(10, -1)", x.where(10, -1), NONE);
        due("where(10, 10)", x.where(10, 10), NONE);
        x.terms(2, 63);
        due("from 63", x.where(10, 0), NONE);
        RoadWater y = mirage();
        int place = y.where(12, 2);
        due("twice somewhere", place > 0 ? 1 : 0, 1);
        y.move(0, place);
        due("there it is twice", y.pictures(0), 2);
        RoadWater z = new RoadWater();
        z.terms(2, 62);
        due("PLACE 63", z.where(31, 1), 63);
        due("PLACE 63", z.where(31, 0), NONE);
        RoadWater w = steepest();
        w.move(0, 1);
        w.cross(0, 100);
        due("by 100 alone, just on the RISE", w.where(1, 1), 2);
        due("just over it", justOver().where(1, 0), 2);
        due("in the SKY", skyEdge().where(1, 0), 63);
        due("in the SKY, below the THING's top", skyEdge().where(2, 0), 63);
        due("just below the SKY", belowSky().where(1, 1), 63);
        due("just below its top", lowest().where(1, 1), 62);
        due("below the RISE", belowRise().where(5, 0), 63);
        // 9 PICTURES can be asked for, 10 can't, though there are some.
        RoadWater v = under("warm 12 - above * 3 if above < 7");
        v.terms(3, 4);
        due("where(9, 9)", v.where(9, 9), 43);
        due("where(9, 10)", v.where(9, 10), NONE);
        v.thing(43, 9);
        due("there it has 9", v.pictures(0), 9);
        v.move(0, 49);
        due("there it has 10", v.pictures(0), 10);
    }

    private static void p34() {
        promise = 34;
        RoadWater x = new RoadWater();
        due("sight(0, 0, 0)", x.sight(0, 0, 0), -2);
        x.thing(20, 10);
        for (int i = 1; i <= 12; i++) {
            due("sight " + i, x.sight(i % 2 == 0 ? 500 : -500, 0, i % 2 == 0 ? NONE : 31), i);
        }
        due("sight 13", x.sight(0, 0, 0), -5);
        due("no such thing goes ahead of no room", x.sight(0, 1, 0), -2);
        due("sight(0, -1, 0)", x.sight(0, -1, 0), -2);
        due("a bad number goes ahead of all", x.sight(501, 1, 0), -1);
        due("sight(-501, 0, 0)", x.sight(-501, 0, 0), -1);
        due("sight(0, 0, -2)", x.sight(0, 0, -2), -1);
        due("sight(0, 0, 32)", x.sight(0, 0, 32), -1);
        due("count(2)", x.count(2), 12);
    }

    private static void p35() {
        promise = 35;
        RoadWater x = new RoadWater();
        due("drop(0)", x.drop(0), -2);
        x.thing(20, 10);
        x.sight(-40, 0, 8);
        x.sight(-40, 0, 7);
        x.sight(-20, 0, NONE);
        due("drop(3)", x.drop(3), -2);
        due("drop(-1)", x.drop(-1), -2);
        due("drop(HIGH)", x.drop(HIGH), -2);
        due("wrong(0)", x.wrong(0), 1);
        due("drop(0)", x.drop(0), 2);
        due("wrong(0)", x.wrong(0), 1);
        due("drop(0)", x.drop(0), 1);
        due("wrong(0)", x.wrong(0), 0);
        due("drop(1)", x.drop(1), -2);
        due("drop(0)", x.drop(0), 0);
        due("drop(0)", x.drop(0), -2);
        x.thing(30, 10);
        // 12 SIGHTS, of two THINGS by turns, all right but the 6th; those behind it stay as they are.
        for (int i = 0; i < 12; i++) {
            int angle = i % 2 == 0 ? -40 - i : -33 + i;
            due("ray", x.ray(angle, 2), i % 2);
            x.sight(angle, i % 2, i == 5 ? NONE : x.ray(angle, 3));
        }
        due("wrong(0)", x.wrong(0), 1);
        due("drop(5)", x.drop(5), 11);
        due("wrong(0)", x.wrong(0), 0);
        due("drop(10)", x.drop(10), 10);
        due("wrong(0)", x.wrong(0), 0);
        for (int i = 9; i >= 0; i--) {
            due("drop(0)", x.drop(0), i);
            due("wrong(0)", x.wrong(0), 0);
        }
    }

    private static void p36() {
        promise = 36;
        RoadWater x = new RoadWater();
        due("wrong(0)", x.wrong(0), 0);
        x.thing(20, 10);
        x.thing(30, 10);
        x.sight(-40, 0, 8);
        x.sight(-40, 0, 9);
        x.sight(-40, 0, NONE);
        x.sight(-40, 1, NONE);
        x.sight(-40, 1, 8);
        x.sight(-20, 0, 8);
        due("wrong(23)", x.wrong(23), 4);
        due("wrong(24)", x.wrong(24), NONE);
        due("wrong(-1)", x.wrong(-1), NONE);
        x.move(0, 50);
        x.move(1, 20);
        // Now the other THING is SEEN by -40 at 8.
        due("wrong(0)", x.wrong(0), 4);
    }

    private static RoadWater evening() {
        // Till 17 straight light, from 18 on over all that is low.
        RoadWater x = under("warm 99 - inch * 9 if hour > 17");
        x.terms(1, 9);
        x.thing(40, 5);
        return x;
    }

    private static void p37() {
        promise = 37;
        RoadWater x = evening();
        due("fits()", x.fits(), ALL_HOURS);
        // 1650 - 40 * 40 is 50.
        x.sight(-40, 0, 0);
        due("fits()", x.fits(), (1 << 18) - 1);
        x.drop(0);
        x.sight(-40, 0, NONE);
        due("fits()", x.fits(), ALL_HOURS - (1 << 18) + 1);
        x.sight(-40, 0, 0);
        due("fits()", x.fits(), 0);
    }

    private static void p38() {
        promise = 38;
        RoadWater x = evening();
        due("likely()", x.likely(), 0);
        x.sight(-40, 0, NONE);
        due("likely()", x.likely(), 18);
        x.sight(-40, 0, 0);
        due("likely()", x.likely(), 0);
        x.sight(-39, 0, NONE);
        due("likely()", x.likely(), 18);
        due("wrong(18)", x.wrong(18), 1);
        due("wrong(0)", x.wrong(0), 2);
        due("HOUR is as it was", x.count(11), 12);
        RoadWater y = under("warm 99 - inch * 9 if hour < 1 or hour > 1");
        y.terms(1, 9);
        y.thing(40, 5);
        y.sight(-40, 0, 0);
        due("likely()", y.likely(), 1);
        due("fits()", y.fits(), 2);
        law(y, "warm 99 - inch * 9 if hour > 0");
        y.force(1);
        due("likely()", y.likely(), 0);
        law(y, "warm 99 - inch * 9 if hour < 23");
        y.force(2);
        due("likely()", y.likely(), 23);
    }

    private static void p39() {
        promise = 39;
        RoadWater x = new RoadWater();
        x.terms(2, 60);
        x.terms(3, 0);
        // SEED 0: 12345, then (12345 * 1103 + 12345) % 1000003 is 628841. A DRAW of 101 less 50:
        // 12345 % 101 is 23: 50 - 27 is 23 at PLACE 61; 628841 % 101 is 15: 23 - 35 is below the GROUND at 62.
        due("tremble(0, 0, 50, 1)", x.tremble(0, 0, 50, 1), 0);
        due("trembled(0, 0)", x.trembled(0, 0), 0);
        due("trembled(0, 1)", x.trembled(0, 1), 62);
        sameByHand(x);
        // 12345 % 3 is 0: 49; by -49 it is 0 then, just on the GROUND; by -50 below it.
        due("tremble(0, -49, 1, 1)", x.tremble(0, -49, 1, 1), 1);
        due("trembled(0, 1)", x.trembled(0, 1), 62);
        x.tremble(0, -50, 1, 1);
        due("trembled(0, 1)", x.trembled(0, 1), 61);
        due("tremble(0, 0, 0, 40)", x.tremble(0, 0, 0, 40), 40);
        due("tremble(1000000, -500, 50, 1)", x.tremble(1000000, -500, 50, 1), 1);
        int[][] bad = {{-1, 0, 0, 1}, {1000001, 0, 0, 1}, {0, 501, 0, 1}, {0, -501, 0, 1}, {0, 0, -1, 1},
            {0, 0, 51, 1}, {0, 0, 0, 0}, {0, 0, 0, 41}, {LOW, HIGH, LOW, HIGH}};
        for (int[] b : bad) {
            due("a bad number", x.tremble(b[0], b[1], b[2], b[3]), -1);
        }
        due("a REFUSED one is not kept", x.trembled(0, 1), 61);
        due("rays are as they were", x.ray(0, 0), 2);
        x.terms(2, 63);
        due("from 63", x.tremble(5, 0, 50, 3), 3);
        due("from 63", x.trembled(2, 1), 63);
        // Which THING is asked, too: they END in the first one or, above it, in the other.
        RoadWater y = new RoadWater();
        y.thing(1, 16);
        y.thing(2, 31);
        int same = y.tremble(7, 0, 50, 40);
        int far = 0;
        for (int i = 0; i < 40; i++) {
            due("END in a THING", y.trembled(i, 0), 1);
            far += y.trembled(i, 1) == 2 ? 1 : 0;
        }
        due("the same THING", same, far);
    }

    private static void sameByHand(RoadWater x) {
        long s = 3;
        int sky = 0;
        int[] places = new int[40];
        for (int i = 0; i < 40; i++) {
            int height = 50;
            int place = 60;
            do {
                place++;
                s = (s * 1103 + 12345) % 1000003;
                height += (int) (s % 61) - 30;
            } while (place < 63 && height >= 0);
            sky += height >= 0 ? 1 : 0;
            places[i] = place;
        }
        due("tremble(3, 0, 30, 40)", x.tremble(3, 0, 30, 40), sky);
        for (int i = 0; i < 40; i++) {
            due("trembled(" + i + ", 1)", x.trembled(i, 1), places[i]);
        }
    }

    private static void p40() {
        promise = 40;
        RoadWater x = new RoadWater();
        due("trembled(0, 0)", x.trembled(0, 0), NONE);
        x.thing(20, 10);
        x.tremble(0, -40, 0, 2);
        due("trembled(1, 0)", x.trembled(1, 0), 1);
        due("trembled(1, 1)", x.trembled(1, 1), 20);
        due("trembled(2, 0)", x.trembled(2, 0), NONE);
        due("trembled(-1, 0)", x.trembled(-1, 0), NONE);
        due("trembled(0, 2)", x.trembled(0, 2), NONE);
        due("trembled(0, -1)", x.trembled(0, -1), NONE);
        x.image(0);
        x.tremble(0, 100, 0, 1);
        due("trembled(1, 0)", x.trembled(1, 0), NONE);
        x.back(0);
        due("it is not kept", x.trembled(0, 0), 2);
        due("it is not kept", x.trembled(0, 1), 16);
        due("it is not kept", x.trembled(1, 1), NONE);
    }

    private static void p41() {
        promise = 41;
        RoadWater x = new RoadWater();
        due("image(2)", x.image(2), -1);
        due("image(-1)", x.image(-1), -1);
        due("image(0)", x.image(0), 0);
        x.rise(3, 4);
        due("image(1)", x.image(1), 0);
        x.rise(3, 5);
        due("back(0)", x.back(0), 0);
        due("rise", x.rise(3, 6), 0);
        due("back(1)", x.back(1), 0);
        due("rise", x.rise(3, 7), 4);
        due("image(1) anew", x.image(1), 0);
        x.rise(3, 8);
        due("back(1)", x.back(1), 0);
        due("rise", x.rise(3, 9), 7);
    }

    private static void p42() {
        promise = 42;
        RoadWater x = new RoadWater();
        due("back(0)", x.back(0), -2);
        due("back(2)", x.back(2), -1);
        due("back(-1)", x.back(-1), -1);
        x.rise(1, 2);
        x.ground(1, 2, 3);
        x.thing(20, 10);
        x.terms(0, 3);
        law(x, "warm 30 + ground + hour");
        x.force(0);
        x.sight(-40, 0, 8);
        due("image(0)", x.image(0), 0);
        change(x);
        feed(x, new byte[] {1, 2, 3});
        due("back(0)", x.back(0), 0);
        due("the tape is not kept", x.count(4), 3);
        int[] counts = {1, 1, 1, 1, 3};
        for (int what = 0; what < counts.length; what++) {
            due("count(" + what + ")", x.count(what), counts[what]);
        }
        due("force", x.count(10), 0);
        due("HOUR", x.count(11), 3);
        due("BEND", x.count(12), 1);
        due("of(0, 0)", x.of(0, 0), 20);
        due("warm(1, 0, 0)", x.warm(1, 0, 0), 33);
        due("warm(0, 0, 1)", x.warm(0, 0, 1), 31);
        due("seen(0)", x.seen(0), 50);
        due("wrong(3)", x.wrong(3), 0);
        due("thing(21, 5)", x.thing(21, 5), 1);
        change(x);
        due("back(0) again", x.back(0), 0);
        due("seen(0)", x.seen(0), 50);
        due("thing(5, 5)", x.thing(5, 5), 1);
        due("a law in its place", law(x, "warm 77"), 1);
        RoadWater y = new RoadWater();
        y.image(1);
        y.thing(9, 4);
        y.thing(8, 5);
        law(y, "warm 44");
        y.force(0);
        y.sight(-200, 1, y.ray(-200, 3));
        y.image(0);
        y.back(1);
        due("count(0)", y.count(0), 0);
        due("count(10)", y.count(10), NONE);
        due("warm", y.warm(0, 0, 0), 10);
        y.thing(9, 30);
        y.thing(8, 31);
        y.sight(-200, 0, 1);
        law(y, "warm 55");
        y.force(0);
        due("warm", y.warm(0, 0, 0), 55);
        y.back(0);
        due("warm", y.warm(0, 0, 0), 44);
        due("of(0, 1)", y.of(0, 1), 4);
        due("of(1, 1)", y.of(1, 1), 5);
        due("wrong(0)", y.wrong(0), 0);
    }

    private static void change(RoadWater x) {
        x.rise(1, 9);
        x.rise(2, 9);
        x.ground(0, 63, 5);
        x.move(0, 7);
        x.thing(40, 4);
        x.terms(0, 4);
        x.terms(1, 5);
        law(x, "warm 55");
        x.force(1);
        x.drop(0);
        x.sight(0, 0, 1);
        x.sight(0, 0, 2);
        x.seen(0);
        x.warm(1, 0, 0);
        x.warm(0, 0, 1);
    }

    private static void p43() {
        promise = 43;
        RoadWater x = new RoadWater();
        x.rise(64, 0);
        x.image(5);
        x.tremble(-1, 0, 0, 1);
        x.move(0, 0);
        x.force(3);
        x.back(1);
        x.drop(0);
        x.thing(1, 1);
        x.thing(1, 1);
        x.row();
        x.row();
        x.law();
        x.warm(-1, 0, 0);
        x.of(9, 9);
        x.feed(0, 0, 0, 0, 0);
        x.end(99);
        int[] counts = {1, 0, 0, 0, 20, 3, 4, 1, 0, 3};
        for (int what = 0; what < counts.length; what++) {
            due("count(" + what + ")", x.count(what), counts[what]);
        }
        x.image(0);
        x.rise(-1, 0);
        x.back(0);
        due("count(5) is not kept", x.count(5), 4);
        for (int i = 2; i < 9; i++) {
            x.thing(i, 1);
        }
        x.thing(9, 1);
        due("count(8)", x.count(8), 1);
        x.rise(40, 1);
        due("count(3)", x.count(3), 1);
        due("count(15)", x.count(15), NONE);
        due("count(-1)", x.count(-1), NONE);
        due("count(LOW)", x.count(LOW), NONE);
    }

    private static void p44() {
        promise = 44;
        RoadWater x = new RoadWater();
        due("status()", x.status(), 0);
        x.rise(64, 0);
        due("rise", x.status(), -1);
        x.seen(7);
        x.feed(0, 0, 0, 0, 0);
        x.end(-1);
        x.warm(99, 0, 0);
        x.worn();
        x.count(99);
        due("others do not count", x.status(), -1);
        x.rise(0, 0);
        due("rise", x.status(), 0);
        x.ground(1, 0, 0);
        due("ground", x.status(), -1);
        x.thing(1, 1);
        due("thing", x.status(), 0);
        x.thing(1, 1);
        due("thing", x.status(), -3);
        x.move(1, 1);
        due("move", x.status(), -2);
        x.terms(0, 0);
        due("terms", x.status(), 0);
        x.end(0);
        x.row();
        due("row", x.status(), -6);
        x.force(NONE);
        due("force", x.status(), 0);
        x.law();
        due("law", x.status(), -6);
        x.image(0);
        due("image", x.status(), 0);
        x.drop(0);
        due("drop", x.status(), -2);
        x.sight(0, 0, 0);
        due("sight", x.status(), 0);
        x.tremble(0, 0, 0, 0);
        due("tremble", x.status(), -1);
        x.back(0);
        due("back", x.status(), 0);
        x.back(1);
        due("back", x.status(), -2);
        x.tremble(0, 0, 0, 1);
        due("tremble", x.status(), 0);
    }
}
