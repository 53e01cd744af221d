import java.io.IOException;

/**
 * The document's 'Terms', sentence by sentence: each is quoted, and held at its
 * boundary, just within and just beyond it. All answers are worked out by hand.
 */
public final class TermsTests {
    private static final int NONE = Calls.NONE;
    private static final int NOTHING = Calls.NOTHING;
    private static final int GROUND = 0;
    private static final int THING = 1;
    private static final int SKY = 2;

    private static Document terms;

    public static void main(String[] args) throws IOException {
        terms = Document.between("## Terms", "The constants:");
        places();
        things();
        thingsOnRises();
        settings();
        refusals();
        firstRefusals();
        laws();
        tokens();
        clauses();
        grammar();
        parts();
        brackets();
        faults();
        asked();
        broken();
        holding();
        warmth();
        leaving();
        endInGround();
        endInSky();
        endInThing();
        endBehindLastPlace();
        bending();
        heldSlopes();
        fromLastPlace();
        turning();
        field();
        seeing();
        pictures();
        uprightness();
        hiding();
        water();
        levels();
        sights();
        fitting();
        draws();
        trembling();
        rows();
        images();
        terms.allQuoted();
        Calls.finish("terms");
    }

    private static void quote(String words) {
        terms.quote(words);
    }

    private static void due(String call, int got, int want) {
        Calls.due(call, got, want);
    }

    /** An object whose EYE is at this PLACE and HEIGHT. */
    private static RoadWater from(int place, int height) {
        return eye(new RoadWater(), place, height);
    }

    private static RoadWater eye(RoadWater x, int place, int height) {
        x.terms(2, place);
        x.terms(3, height);
        return x;
    }

    private static void places() {
        quote("PLACES 0 .. 63 in a row, each with a RISE 0 .. 31 (inches; 0 at first) and a GROUND 0 .. 9 (0).");
        RoadWater x = Calls.under("warm ground * 10 + rise");
        for (int place = 0; place < 64; place++) {
            due("at first, at PLACE " + place, x.warm(place, 0, 0), 0);
        }
        for (int place = 0; place < 64; place++) {
            due("rise(" + place + ")", x.rise(place, place / 2), 0);
            due("ground(" + place + ")", x.ground(place, place, place % 7), place % 7 == 0 ? 0 : 1);
        }
        for (int place = 0; place < 64; place++) {
            due("each its own, at PLACE " + place, x.warm(place, 0, 0), place % 7 * 10 + place / 2);
        }
        due("rise(-1, 5)", x.rise(-1, 5), -1);
        due("rise(64, 5)", x.rise(64, 5), -1);
        due("rise(63, 31)", x.rise(63, 31), 31);
        due("rise(63, 32)", x.rise(63, 32), -1);
        due("rise(63, -1)", x.rise(63, -1), -1);
        due("rise(63, 0)", x.rise(63, 0), 31);
        due("ground(-1, 0, 5)", x.ground(-1, 0, 5), -1);
        due("ground(63, 64, 5)", x.ground(63, 64, 5), -1);
        due("ground(63, 63, 9)", x.ground(63, 63, 9), 1);
        due("a GROUND of 9", x.warm(63, 0, 0), 90);
        due("ground(63, 63, 10)", x.ground(63, 63, 10), -1);
        due("ground(63, 63, -1)", x.ground(63, 63, -1), -1);
        due("ground(63, 63, 0)", x.ground(63, 63, 0), 1);
        due("a GROUND of 0", x.warm(63, 0, 0), 0);
    }

    private static void things() {
        quote("THINGS 0 .. 7 (8 at most), each at a PLACE (one at each at most), TALL 1 .. 31:");
        RoadWater x = new RoadWater();
        due("thing(64, 5)", x.thing(64, 5), -1);
        due("thing(-1, 5)", x.thing(-1, 5), -1);
        due("thing(5, 0)", x.thing(5, 0), -1);
        due("thing(5, 32)", x.thing(5, 32), -1);
        for (int i = 0; i < 8; i++) {
            due("thing " + i, x.thing(i * 9, i % 2 == 0 ? 1 : 31), i);
            due("its TALL", x.of(i, 1), i % 2 == 0 ? 1 : 31);
            due("one at each", x.thing(i * 9, 5), -3);
        }
        due("a 9th", x.thing(5, 5), -5);
        due("a 9th", x.count(0), 8);
        due("of(8, 0)", x.of(8, 0), NONE);
        due("one at each", x.move(0, 9), -3);
        due("it goes away", x.move(0, 5), 0);
        due("there is room for another one", x.move(1, 0), 9);
    }

    private static void thingsOnRises() {
        quote("it stands on the RISE; what of it is above inch 31 is not there.");
        // On a RISE of 5 and 3 TALL it is from 500 to 799.
        RoadWater x = from(19, 5);
        x.rise(20, 5);
        x.thing(20, 3);
        Calls.ray(x, -50, THING, 20, 0, 0, 500);
        Calls.ray(x, -51, GROUND, 20, NONE, NONE, 499);
        x.terms(3, 7);
        Calls.ray(x, 49, THING, 20, 0, 2, 799);
        Calls.ray(x, 50, SKY);
        int[][] there = {{0, 3}, {29, 3}, {30, 2}, {31, 1}};
        x.terms(2, 63);
        for (int[] t : there) {
            x.rise(20, t[0]);
            due("INCHES on a RISE of " + t[0], x.of(0, 2), t[1]);
            due("HIDDEN on a RISE of " + t[0], x.hidden(0), (1 << t[1]) - 1);
        }
    }

    private static void settings() {
        quote("TERMS: 0 HOUR 0 .. 23 (12 at first), 1 BEND 0 .. 9 (1), 2 EYE's PLACE 0 .. 63 (0), "
                + "3 EYE's HEIGHT 0 .. 31 (16; inches, from RISE 0 on).");
        RoadWater x = new RoadWater();
        int[] first = {12, 1, 0, 16};
        int[] top = {23, 9, 63, 31};
        due("terms(-1, 0)", x.terms(-1, 0), -1);
        due("terms(4, 0)", x.terms(4, 0), -1);
        for (int what = 0; what < 4; what++) {
            due("at first", x.count(11 + what), first[what]);
            due("terms(" + what + ", -1)", x.terms(what, -1), -1);
            due("terms(" + what + ", " + (top[what] + 1) + ")", x.terms(what, top[what] + 1), -1);
            due("as it was", x.count(11 + what), first[what]);
            due("terms(" + what + ", " + top[what] + ")", x.terms(what, top[what]), first[what]);
            due("terms(" + what + ", 0)", x.terms(what, 0), top[what]);
        }
        RoadWater y = new RoadWater();
        y.rise(0, 9);
        due("the HEIGHT is from RISE 0 on", y.at(0, 0), 1650);
    }

    private static void refusals() {
        quote("REFUSED by: -1 a number that can't be; -2 there is no such THING, LAW, SIGHT, IMAGE; "
                + "-3 it can't be by what stands; -5 no room; -6 a TEXT, a ROW that can't be.");
        RoadWater x = new RoadWater();
        due("a number that can't be", x.rise(64, 0), -1);
        due("no such THING", x.move(0, 5), -2);
        due("no such LAW", x.force(0), -2);
        due("no such SIGHT", x.drop(0), -2);
        due("no such IMAGE", x.back(0), -2);
        x.thing(5, 5);
        due("by what stands", x.thing(5, 5), -3);
        due("no such TEXT", Calls.law(x, "warm"), -6);
        due("no such ROW", x.row(), -6);
        for (int i = 1; i < 8; i++) {
            x.thing(i + 10, 1);
        }
        due("no room", x.thing(40, 1), -5);
        int[] counts = {1, 4, 1, 1, 2};
        for (int i = 0; i < 5; i++) {
            due("count(" + (5 + i) + ")", x.count(5 + i), counts[i]);
        }
    }

    private static void firstRefusals() {
        quote("The first of these in that order.");
        RoadWater x = new RoadWater();
        due("-1, -2: back(2)", x.back(2), -1);
        for (int i = 0; i < 8; i++) {
            x.thing(i, 5);
        }
        for (int i = 0; i < 12; i++) {
            x.sight(0, 0, 0);
        }
        for (int i = 0; i < 6; i++) {
            Calls.law(x, "warm 1");
        }
        due("-1, -2: move(8, 64)", x.move(8, 64), -1);
        due("-1, -2, -5: sight(501, 8, 0)", x.sight(501, 8, 0), -1);
        due("-1, -3, -5: thing(0, 32)", x.thing(0, 32), -1);
        due("-1, -5: thing(9, 0)", x.thing(9, 0), -1);
        due("-1, -5: sight(0, 0, 32)", x.sight(0, 0, 32), -1);
        due("-2, -3: move(8, 0)", x.move(8, 0), -2);
        due("-2, -5: sight(0, 8, 0)", x.sight(0, 8, 0), -2);
        due("-3, -5: thing(0, 5)", x.thing(0, 5), -3);
        due("-5, -6: law()", Calls.law(x, "warm"), -5);
        due("-5 alone: thing(9, 5)", x.thing(9, 5), -5);
        due("-5 alone: sight(0, 0, 0)", x.sight(0, 0, 0), -5);
        due("-5 alone: law()", Calls.law(x, "warm 1"), -5);
    }

    private static void laws() {
        quote("LAWS are TEXTS, 6 at most, on a TAPE of at most 400 bytes; one is in FORCE (NONE at first: no CLAUSE).");
        RoadWater x = new RoadWater();
        due("NONE at first", x.count(10), NONE);
        for (int i = 0; i < 6; i++) {
            due("LAW " + i, Calls.law(x, "warm " + (20 + i)), i);
            due("no CLAUSE", x.warm(0, 0, 0), 10);
        }
        due("a 7th", Calls.law(x, "warm 26"), -5);
        for (int i = 0; i < 6; i++) {
            due("force(" + i + ")", x.force(i), i - 1);
            due("one alone", x.warm(0, 0, 0), 20 + i);
        }
        due("force(6)", x.force(6), -2);
        due("force(NONE)", x.force(NONE), 5);
        due("no CLAUSE", x.warm(0, 0, 0), 10);
        RoadWater y = new RoadWater();
        for (int i = 1; i <= 20; i++) {
            due("bytes", y.feed(0, 0, 0, 0, 0), 20 * i);
        }
        due("beyond 400", y.feed(0, 0, 0, 0, 0), NONE);
        due("400 bytes, the last one counts", Calls.under("warm" + " ".repeat(395) + "7").warm(0, 0, 0), 7);
        Calls.fault("warm 7" + " ".repeat(393) + "x", 399);
        Calls.fault("warm 7" + " ".repeat(393) + "+", 400);
    }

    private static void tokens() {
        quote("TOKENS: longest rows of letters a .. z, of digits, single other bytes, any blanks (32) between.");
        Calls.fault("warm12if3<4and inch=5;warm[6]", NONE);
        Calls.fault("warminch", 0);
        Calls.fault("warm inchabove", 5);
        Calls.fault("warm in ch", 5);
        Calls.fault("warm 1 2", 7);
        Calls.fault("warm 1000", NONE);
        Calls.fault("warm 100 0", 9);
        Calls.told("warm 09", 9);
        Calls.told("warm 90", 90);
        String[] noWords = {"awarm 1", "warma 1", "zwarm 1", "warmz 1"};
        for (String text : noWords) {
            Calls.fault(text, 0);
        }
        // Beside a .. z, 0 .. 9 and the blank.
        for (char sign : new char[] {'`', '{', '/', ':', 31, 33, 'A', 'Z', 9, 10, 0, 127, 128, 160, 255}) {
            Calls.fault("warm" + sign + "1", 4);
            Calls.fault("warm 1" + sign, sign == '/' ? 7 : 6);
        }
        Calls.fault("", 0);
        Calls.fault("   warm   1   ", NONE);
        Calls.fault(" ".repeat(394) + "warm 1", NONE);
        Calls.fault("warm 1 if 1 < = 2", 14);
        Calls.fault("warm 1 if 1 <> 2", 13);
    }

    private static void clauses() {
        quote("CLAUSE {\";\" CLAUSE}, 12 at most (FAULT at the 13th's first TOKEN).");
        Calls.fault("warm 1;", 7);
        Calls.fault(";warm 1", 0);
        Calls.fault("warm 1;;warm 2", 7);
        Calls.fault("warm 1 warm 2", 7);
        // Each CLAUSE but the last one is 7 long.
        String twelve = "warm 1;".repeat(11) + "warm 2";
        Calls.fault(twelve, NONE);
        Calls.told(twelve, 2);
        Calls.fault(twelve + ";warm 3", 84);
        Calls.fault(twelve + ";  warm 3", 86);
        Calls.fault(twelve + ";x", 84);
        Calls.fault(twelve + ";", 84);
        Calls.fault(twelve + "; ", 85);
        Calls.fault(twelve + " 3", 84);
        String tested = "warm 1 if 1=1;".repeat(11) + "warm 2 if 2=2";
        Calls.told(tested, 2);
        Calls.fault(tested + ";warm 3", 168);
    }

    private static void grammar() {
        quote("CLAUSE: \"warm\" SUM [\"if\" TEST].");
        Calls.fault("1", 0);
        Calls.fault("warm", 4);
        Calls.fault("warm if 1 = 1", 5);
        Calls.fault("warm 1 if", 9);
        Calls.fault("warm 1 if 1 = 1 if 1 = 1", 16);
        Calls.fault("warm 1 < 2", 7);
        Calls.fault("x 1", 0);
        Calls.fault("warm 1 x 1 = 1", 7);
        Calls.told("warm 2 if 1 = 1", 2);
        quote("TEST: BOTH {\"or\" BOTH}.");
        Calls.fault("warm 1 if or 1 = 1", 10);
        Calls.fault("warm 1 if 1 = 1 x 1 = 1", 16);
        Calls.fault("warm 1 if 1 = 1 or", 18);
        Calls.told("warm 2 if 1 = 2 or 1 = 3 or 1 = 1", 2);
        Calls.told("warm 2 if 1 = 2 or 1 = 3 or 1 = 4", 10);
        Calls.told("warm 2 if 1 = 1 or 1 = 1 and 1 = 2", 2);
        quote("BOTH: PLAIN {\"and\" PLAIN}.");
        Calls.fault("warm 1 if and 1 = 1", 10);
        Calls.fault("warm 1 if 1 = 1 and", 19);
        Calls.told("warm 2 if 1 = 1 and 2 = 2 and 3 = 3", 2);
        Calls.told("warm 2 if 1 = 1 and 2 = 2 and 3 = 4", 10);
        Calls.told("warm 2 if 1 = 2 and 1 = 1 or 1 = 1", 2);
        quote("PLAIN: \"not\" PLAIN | \"(\" TEST \")\" | SUM (\"<\" | \">\" | \"=\") SUM.");
        Calls.told("warm 2 if not 1 = 2", 2);
        Calls.told("warm 2 if not not 1 = 2", 10);
        Calls.told("warm 2 if not 2 < 1", 2);
        Calls.told("warm 2 if not 1 < 2", 10);
        Calls.told("warm 2 if not 1 > 2", 2);
        Calls.told("warm 2 if not 2 > 1", 10);
        Calls.told("warm 2 if not 1 = 1 or 1 = 1", 2);
        Calls.told("warm 2 if not (1 = 1 or 1 = 1)", 10);
        Calls.told("warm 2 if (1 = 1 or 1 = 1) and 1 = 2", 10);
        int[][] orders = {{4, 5}, {5, 5}, {6, 5}};
        int[][] so = {{2, 10, 10}, {10, 10, 2}, {10, 2, 10}};
        for (int i = 0; i < 3; i++) {
            String sums = orders[i][0] + " %s " + orders[i][1];
            Calls.told("warm 2 if " + String.format(sums, "<"), so[i][0]);
            Calls.told("warm 2 if " + String.format(sums, ">"), so[i][1]);
            Calls.told("warm 2 if " + String.format(sums, "="), so[i][2]);
        }
        Calls.fault("warm 1 if x 1 = 1", 10);
        Calls.fault("warm 1 if 1", 11);
        Calls.fault("warm 1 if (1 = 1", 16);
        Calls.fault("warm 1 if ()", 11);
        Calls.fault("warm 1 if (1) = 1", 12);
        Calls.fault("warm 1 if 1 = 1 = 1", 16);
        Calls.fault("warm 1 if 1 = 1)", 15);
        Calls.fault("warm 1 if [1 = 1]", 13);
        quote("SUM: TERM {(\"+\" | \"-\") TERM}.");
        Calls.told("warm 20 - 5 - 4 + 3", 14);
        Calls.fault("warm 1 +", 8);
        Calls.fault("warm - 1", 5);
        Calls.fault("warm + 1", 5);
        Calls.fault("warm 1 - - 1", 9);
        quote("TERM: PART {(\"*\" | \"/\") PART}.");
        Calls.told("warm 2 + 3 * 4", 14);
        Calls.told("warm 24 / 4 / 2 * 5", 15);
        Calls.fault("warm 1 * / 2", 9);
        Calls.fault("warm * 1", 5);
    }

    private static void parts() {
        quote("PART: NUMBER (to 1,000) | \"[\" SUM \"]\" | \"inch\" | \"above\" | \"place\" | \"ground\" | \"rise\" "
                + "| \"hour\".");
        Calls.fault("warm 1000", NONE);
        Calls.fault("warm 1001", 5);
        Calls.fault("warm 1 + 1001", 9);
        Calls.fault("warm 1,000", 6);
        // Beyond what 32 and 64 bits hold.
        for (String number : new String[] {"4294967296", "4294968296", "18446744073709551616", "9".repeat(395)}) {
            Calls.fault("warm " + number, 5);
            Calls.fault("warm 1 + " + number.substring(0, Math.min(number.length(), 391)), 9);
        }
        Calls.fault("1001 warm 1", 0);
        Calls.told("warm 1000 - 999", 1);
        Calls.told("warm 0", 0);
        Calls.told("warm [2 + 3] * 4", 20);
        Calls.fault("warm []", 6);
        Calls.fault("warm (1)", 5);
        String[] words = {"inch", "above", "place", "ground", "rise", "hour"};
        int[] values = {5, 2, 7, 4, 3, 9};
        for (int i = 0; i < words.length; i++) {
            Calls.told("warm " + words[i], values[i]);
            Calls.fault("warm " + words[i] + "s", 5);
            Calls.fault("warm " + words[i].substring(1), 5);
        }
        for (String word : new String[] {"warm", "if", "or", "and", "not", "eye", "bend"}) {
            Calls.fault("warm " + word, 5);
        }
        quote("50 PARTS that are NUMBERS and words (FAULT at the 51st),");
        String fifty = "warm 1" + "+1".repeat(48) + "+inch";
        Calls.told(fifty, 54);
        Calls.fault(fifty + "+1", 108);
        Calls.fault(fifty + "+inch", 108);
        Calls.fault(fifty + " if 1 = 1", 111);
        Calls.fault(fifty + ";warm 1", 113);
        // A PART in brackets is none of them.
        Calls.fault("warm [[1]]" + "+[1]".repeat(49), NONE);
        Calls.fault("warm [[1]]" + "+[1]".repeat(49) + "+[1]", 208);
        Calls.fault("warm 1 if 2 = 3" + " or 1 = 1".repeat(23) + " or not 1 = 1", 234);
        Calls.fault("warm 1;warm 1 if 1 = 1" + " or 1 = 1".repeat(23), NONE);
        Calls.fault("warm 1;warm 1 if 1 = 1" + " or 1 = 1".repeat(23) + " or 1 = 1", 233);
    }

    private static void brackets() {
        quote("8 brackets of both kinds within one another (FAULT at the 9th) at most.");
        Calls.fault("warm " + "[".repeat(8) + "1" + "]".repeat(8), NONE);
        Calls.fault("warm " + "[".repeat(9) + "1" + "]".repeat(9), 13);
        Calls.fault("warm 1 if " + "(".repeat(8) + "1=1" + ")".repeat(8), NONE);
        Calls.fault("warm 1 if " + "(".repeat(9) + "1=1" + ")".repeat(9), 18);
        Calls.fault("warm 1 if " + "(".repeat(5) + "[[[1]]]=1" + ")".repeat(5), NONE);
        Calls.fault("warm 1 if " + "(".repeat(5) + "[[[[1]]]]=1" + ")".repeat(5), 18);
        Calls.fault("warm 1 if " + "(".repeat(5) + "1=[[[[1]]]]" + ")".repeat(5), 20);
        Calls.fault("warm 1 if " + "(".repeat(8) + "[1]=1" + ")".repeat(8), 18);
        Calls.fault("warm 1 if (" + "not (".repeat(7) + "1=1" + ")".repeat(8), NONE);
        Calls.fault("warm 1 if (" + "not (".repeat(8) + "1=1" + ")".repeat(9), 50);
        // Beside one another there may be more.
        Calls.fault("warm " + "[[[[[[[[1]]]]]]]]+".repeat(3) + "[[[[[[[[1]]]]]]]]", NONE);
        Calls.fault("warm 1 if ((((((((1=1)))))))) and ((((((((1=1))))))))", NONE);
    }

    private static void faults() {
        quote("FAULT: the first TOKEN that can't go on there (the end's: the TEXT's length).");
        Calls.fault("x", 0);
        Calls.fault("  x", 2);
        Calls.fault("warm 1 x y", 7);
        Calls.fault("warm 1 xyz", 7);
        Calls.fault("warm 12345", 5);
        Calls.fault("warm 1 +  ", 10);
        Calls.fault("warm", 4);
        Calls.fault("    ", 4);
        Calls.fault("", 0);
        Calls.fault("warm 1 if 1 = [2 + 3", 20);
        Calls.fault("warm 1 if 1 = [2 + 3)", 20);
    }

    private static void asked() {
        quote("It is asked of a PLACE and an INCH 0 .. 31: inch, above (the INCH less the RISE), place, ground, rise, "
                + "hour.");
        RoadWater x = Calls.under("warm inch + place + hour");
        due("the least", x.warm(0, 0, 0), 0);
        due("the greatest of each", x.warm(0, 31, 0) + x.warm(63, 0, 0) + x.warm(0, 0, 23), 31 + 63 + 23);
        due("INCH 32", x.warm(0, 32, 0), NOTHING);
        due("INCH -1", x.warm(0, -1, 0), NOTHING);
        RoadWater y = Calls.under("warm above");
        y.rise(5, 31);
        due("above, at its least", y.warm(5, 0, 0), -31);
        due("above, at 0", y.warm(5, 31, 0), 0);
        due("above, at its greatest", y.warm(4, 31, 0), 31);
        RoadWater z = Calls.under("warm ground * 10 + rise");
        z.ground(5, 5, 6);
        z.rise(5, 31);
        due("ground and rise", z.warm(5, 0, 0), 91);
    }

    private static void broken() {
        quote("Beyond 1,000,000,000 either way, or divided by 0, a SUM, a TEST is BROKEN; / is cut towards 0.");
        String most = "1000 * 1000 * 1000";
        Calls.told("warm 20; warm " + most, 99);
        Calls.told("warm 20; warm " + most + " + 1", 20);
        Calls.told("warm 20; warm " + most + " + 1 - 1", 20);
        Calls.told("warm 20; warm 1 + " + most, 20);
        Calls.told("warm 20; warm [" + most + "] * [" + most + "]", 20);
        Calls.told("warm 20; warm 0 - " + most, -50);
        Calls.told("warm 20; warm 0 - " + most + " - 1", 20);
        Calls.told("warm 20; warm 0 - 1 - " + most, 20);
        Calls.told("warm 20; warm 30 if " + most + " > 1", 30);
        Calls.told("warm 20; warm 30 if " + most + " + 1 > 1", 20);
        Calls.told("warm 20; warm 30 if not " + most + " + 1 < 1", 20);
        Calls.told("warm 20; warm 30 if 1 > 0 - " + most + " - 1", 20);
        Calls.told("warm 20; warm 1 / 0", 20);
        Calls.told("warm 20; warm 0 / 0", 20);
        Calls.told("warm 20; warm 0 * [1 / [inch - 5]]", 20);
        Calls.told("warm 20; warm 1 / [inch - 4]", 1);
        Calls.told("warm 20; warm 30 if 1 / 0 = 1 / 0", 20);
        Calls.told("warm 20; warm 30 if not 1 / 0 = 1", 20);
        Calls.told("warm 7 / 2", 3);
        Calls.told("warm [0 - 7] / 2", -3);
        Calls.told("warm 7 / [0 - 2]", -3);
        Calls.told("warm [0 - 7] / [0 - 2]", 3);
        Calls.told("warm 8 / 2 + [0 - 8] / 4", 2);
        Calls.told("warm 1 / 2", 0);
        Calls.told("warm [0 - 1] / 2", 0);
    }

    private static void holding() {
        quote("A CLAUSE HOLDS, if its \"if\" (if it has one) is so, and neither that nor its SUM is BROKEN "
                + "(\"or\", \"and\" ask what stands behind only if it can still matter).");
        Calls.told("warm 30", 30);
        Calls.told("warm 30 if inch = 5", 30);
        Calls.told("warm 30 if inch = 6", 10);
        Calls.told("warm 1 / 0 if inch = 5", 10);
        Calls.told("warm 30 if 1 / 0 = 1", 10);
        Calls.told("warm 30 if 1 = 1 or 1 / 0 = 1", 30);
        Calls.told("warm 30 if 1 = 2 or 1 / 0 = 1", 10);
        Calls.told("warm 30 if 1 / 0 = 1 or 1 = 1", 10);
        Calls.told("warm 30 if not (1 = 2 and 1 / 0 = 1)", 30);
        Calls.told("warm 30 if not (1 = 1 and 1 / 0 = 1)", 10);
        Calls.told("warm 30 if not (1 / 0 = 1 and 1 = 2)", 10);
        Calls.told("warm 30 if 1 = 1 or 1 = 1 and 1 / 0 = 1", 30);
        Calls.told("warm 30 if 1 = 2 and 1 / 0 = 1 or 1 = 1", 30);
        Calls.told("warm 30 if 1 = 1 or 1 / 0 = 1 or 1 / 0 = 1", 30);
        Calls.told("warm 30 if (1 = 1 or 1 / 0 = 1) and 1 = 1", 30);
        Calls.told("warm 30 if (1 = 1 or 1 / 0 = 1) and 1 / 0 = 1", 10);
    }

    private static void warmth() {
        quote("WARMTH there is what the last CLAUSE that HOLDS tells, -50 .. 99 (else the nearest), 10 without.");
        Calls.told("warm 20; warm 30; warm 40", 40);
        Calls.told("warm 20; warm 30; warm 40 if inch = 6", 30);
        Calls.told("warm 20; warm 30; warm 1 / 0", 30);
        Calls.told("warm 20 if inch = 6; warm 1 / 0; warm 40 if 1 / 0 = 0", 10);
        int[][] held = {{99, 99}, {100, 99}, {1000, 99}, {50, 50}};
        for (int[] h : held) {
            Calls.told("warm " + h[0], h[1]);
        }
        int[][] cold = {{49, -49}, {50, -50}, {51, -50}, {1000, -50}};
        for (int[] c : cold) {
            Calls.told("warm 0 - " + c[0], c[1]);
        }
        due("without a LAW", new RoadWater().warm(0, 0, 0), 10);
    }

    private static void leaving() {
        quote("A RAY leaves the EYE at 100 times its HEIGHT and 50 (hundredths of inches), with a SLOPE, its ANGLE "
                + "-500 .. 500, and goes on PLACE by PLACE to the next one: its height becomes more by the SLOPE.");
        due("HEIGHT 0", from(5, 0).at(0, 5), 50);
        due("HEIGHT 31", from(5, 31).at(0, 5), 3150);
        RoadWater x = from(5, 16);
        for (int i = 0; i < 5; i++) {
            due("up, " + i, x.at(7, 5 + i), 1650 + 7 * i);
            due("down, " + i, x.at(-7, 5 + i), 1650 - 7 * i);
        }
        due("not the other way", x.at(7, 4), NOTHING);
        due("at(500, 6)", x.at(500, 6), 2150);
        due("at(-500, 6)", x.at(-500, 6), 1150);
        due("at(501, 6)", x.at(501, 6), NOTHING);
        due("at(-501, 6)", x.at(-501, 6), NOTHING);
        due("ray(500, 7)", x.ray(500, 7), 500);
        due("ray(501, 7)", x.ray(501, 7), NOTHING);
        due("ray(-501, 7)", x.ray(-501, 7), NOTHING);
    }

    private static void endInGround() {
        quote("If it is below 100 times the RISE there, it ENDS in the GROUND;");
        RoadWater x = from(9, 16);
        x.rise(10, 17);
        Calls.ray(x, 49, GROUND, 10, NONE, NONE, 1699);
        Calls.ray(x, 50, SKY, 40, NONE, NONE, 3200);
        RoadWater y = from(9, 0);
        Calls.ray(y, -51, GROUND, 10, NONE, NONE, -1);
        due("at 0 it goes on", y.at(-50, 11), -50);
        Calls.ray(y, -50, GROUND, 11, NONE, NONE, -50);
        y.rise(9, 31);
        due("the EYE's own RISE ends none", y.ray(0, 1), 63);
        // The GROUND goes ahead of a THING on it.
        x.thing(10, 31);
        Calls.ray(x, 49, GROUND, 10, NONE, NONE, 1699);
        Calls.ray(x, 50, THING, 10, 0, 0, 1700);
    }

    private static void endInSky() {
        quote("if it is 3200 or more, it ENDS in the SKY;");
        RoadWater x = from(9, 31);
        Calls.ray(x, 50, SKY, 10, NONE, NONE, 3200);
        Calls.ray(x, 49, SKY, 11, NONE, NONE, 3248);
        due("at 3199 it goes on", x.at(49, 10), 3199);
        due("at 3200 it does not", x.at(50, 11), NOTHING);
        // The SKY goes ahead of a THING up there.
        x.rise(10, 31);
        x.thing(10, 31);
        Calls.ray(x, 50, SKY, 10, NONE, NONE, 3200);
        Calls.ray(x, 49, THING, 10, 0, 0, 3199);
    }

    private static void endInThing() {
        quote("if there is a THING and it is below 100 times RISE and TALL, it ENDS in the THING, at the INCH of it "
                + "from its foot on (what it is above the RISE by 100, cut).");
        RoadWater x = from(9, 16);
        x.rise(10, 16);
        x.thing(10, 1);
        Calls.ray(x, -51, GROUND, 10, NONE, NONE, 1599);
        Calls.ray(x, -50, THING, 10, 0, 0, 1600);
        Calls.ray(x, 49, THING, 10, 0, 0, 1699);
        Calls.ray(x, 50, SKY, 40);
        RoadWater y = from(9, 16);
        y.rise(10, 15);
        y.thing(11, 1);
        y.thing(10, 2);
        Calls.ray(y, -150, THING, 10, 1, 0, 1500);
        Calls.ray(y, -51, THING, 10, 1, 0, 1599);
        Calls.ray(y, -50, THING, 10, 1, 1, 1600);
        Calls.ray(y, 49, THING, 10, 1, 1, 1699);
        due("past it", y.ray(50, 2), NONE);
        y.move(1, 9);
        Calls.ray(y, -50, GROUND, 43, NONE, NONE, -50);
    }

    private static void endBehindLastPlace() {
        quote("Else, behind PLACE 63, it ENDS in the SKY;");
        Calls.ray(from(0, 16), 0, SKY, 63, NONE, NONE, 1650);
        RoadWater x = from(62, 16);
        Calls.ray(x, 0, SKY, 63, NONE, NONE, 1650);
        x.thing(63, 17);
        Calls.ray(x, 49, THING, 63, 0, 16, 1699);
        Calls.ray(x, 50, SKY, 63, NONE, NONE, 1700);
        x.rise(63, 18);
        Calls.ray(x, 50, GROUND, 63, NONE, NONE, 1700);
        // At PLACE 62 the SLOPE is bent, at PLACE 63 no more.
        RoadWater y = eye(Calls.under("warm 40 - inch"), 62, 16);
        Calls.ray(y, 0, SKY, 63, NONE, NONE, 1650, 1650, 0, 0);
        y.terms(2, 61);
        Calls.ray(y, 0, SKY, 63, NONE, NONE, 1652, 1650, 0, 2);
    }

    private static void bending() {
        quote("else its SLOPE becomes more by BEND times what it is WARMER one INCH below its own (height by 100, cut) "
                + "than one INCH above it, there (INCHES 0 .. 31: the nearest), -2,000 .. 2,000 (else the nearest).");
        // One INCH below it is 2 warmer than one above; at INCHES 0 and 31 it is 1.
        int[][] pulls = {{0, 1}, {1, 2}, {16, 2}, {30, 2}, {31, 1}};
        for (int[] p : pulls) {
            RoadWater x = eye(Calls.under("warm 40 - inch"), 5, p[0]);
            for (int bend : new int[] {0, 1, 9}) {
                x.terms(1, bend);
                due("no bend at the EYE, HEIGHT " + p[0], x.at(0, 6), 100 * p[0] + 50);
                due("BEND " + bend + ", HEIGHT " + p[0], x.at(0, 7), 100 * p[0] + 50 + bend * p[1]);
            }
        }
        // INCHES 7 and 8 have 10 more below them than above.
        RoadWater y = eye(Calls.under("warm 20 if inch < 8"), 5, 8);
        int[][] cut = {{50, 0}, {49, 10}, {-150, 10}, {-151, 0}};
        for (int[] c : cut) {
            due("at(" + c[0] + ", 6)", y.at(c[0], 6), 850 + c[0]);
            due("at(" + c[0] + ", 7)", y.at(c[0], 7), 850 + 2 * c[0] + c[1]);
        }
        RoadWater z = eye(Calls.under("warm 40 - inch if place = 5 or place = 7 or place = 63"), 5, 16);
        int[] heights = {1650, 1650, 1650, 1652, 1654};
        for (int i = 0; i < heights.length; i++) {
            due("at PLACE 7 alone", z.at(0, 5 + i), heights[i]);
        }
        heldSlopes();
    }

    private static void heldSlopes() {
        // ANGLE a, 9 times 84 more at PLACE 1 and 9 times 83 more at PLACE 2: a and 1503.
        RoadWater x = eye(Calls.under("warm 84 if place = 1 and inch = 4; warm 0 if place = 1 and inch = 6;"
                + "warm 83 if place = 2; warm 0 if place = 2 and inch > 17"), 0, 0);
        x.terms(1, 9);
        int[][] up = {{496, 1999}, {497, 2000}, {498, 2000}, {499, 2000}};
        for (int[] u : up) {
            due("SLOPE of " + u[0], x.ray(u[0], 7), u[1]);
            due("height by " + u[0], x.at(u[0], 3), 50 + u[0] + u[0] + 756 + u[1]);
        }
        RoadWater y = eye(Calls.under("warm 84 if place = 1 and inch = 27; warm 0 if place = 1 and inch = 25;"
                + "warm 83 if place = 2; warm 0 if place = 2 and inch < 14"), 0, 31);
        y.terms(1, 9);
        int[][] down = {{-496, -1999}, {-497, -2000}, {-498, -2000}, {-499, -2000}};
        for (int[] d : down) {
            due("SLOPE of " + d[0], y.ray(d[0], 7), d[1]);
            due("height by " + d[0], y.at(d[0], 3), 3150 + d[0] + d[0] - 756 + d[1]);
        }
    }

    private static void fromLastPlace() {
        quote("From an EYE at PLACE 63 each RAY ENDS in the SKY at once (at PLACE 63).");
        RoadWater x = from(63, 16);
        x.rise(63, 31);
        x.thing(63, 31);
        for (int angle : new int[] {-500, -1, 0, 500}) {
            Calls.ray(x, angle, SKY, 63, NONE, NONE, 1650, 1650, 0, angle);
        }
        due("no RAY is SEEN", x.seen(0), 0);
        due("none comes elsewhere", x.at(0, 62), NOTHING);
        x.rise(63, 0);
        x.terms(2, 62);
        Calls.ray(x, 0, THING, 63, 0, 16, 1650);
    }

    private static void turning() {
        quote("It TURNS where its SLOPE was below 0 and becomes above 0 or the other way round (0 is passed over).");
        // At INCH 15 10 more, at INCH 17 10 less: 1630 1610 1590, SLOPE -10, 1580, 0, 1580, 10, 1590, 20, .. and the
        // same above: it TURNS at PLACES 5, 14, 23, 32, 41, 50, 59.
        RoadWater x = Calls.under("warm 20; warm 10 if inch = 16");
        due("at 5", x.at(-20, 5), 1580);
        due("at 6", x.at(-20, 6), 1590);
        due("at 14", x.at(-20, 14), 1720);
        due("at 23", x.at(-20, 23), 1580);
        Calls.ray(x, -20, SKY, 63, NONE, NONE, x.at(-20, 63), 1580, 7);
        x.thing(4, 31);
        int[][] turns = {{4, 0}, {5, 0}, {6, 1}, {14, 1}, {15, 2}, {23, 2}, {24, 3}};
        for (int[] t : turns) {
            x.move(0, t[0]);
            due("it ENDS at PLACE " + t[0], x.ray(-20, 6), t[1]);
        }
        x.move(0, 0);
        due("one of 0 has no side", x.ray(0, 6), 0);
        // Down by 10, once straight on, down by 10 again: 840 at 1, SLOPE 0; 840 at 2, SLOPE -10.
        RoadWater y = Calls.under("warm 20 if place = 1 and inch < 8; warm 20 if place = 2 and inch > 8");
        y.terms(3, 8);
        due("at 2", y.at(-10, 2), 840);
        due("at 3", y.at(-10, 3), 830);
        due("0 between two of a side", y.ray(-10, 6), 0);
        // From 0 up.
        due("at 2 by 0", y.at(0, 2), 860);
        RoadWater z = Calls.under("warm 20 if inch < 8");
        z.terms(3, 8);
        due("from 0 to above", z.ray(0, 6), 0);
        due("from -1 to 9", z.ray(-1, 6), 1);
    }

    private static void field() {
        quote("The FIELD: RAYS of ANGLES -100 .. 100.");
        // At PLACE 63 1650 and twice the ANGLE.
        RoadWater x = from(61, 16);
        x.thing(63, 15);
        due("-100 .. -76", x.seen(0), 25);
        due("the lowest", x.picture(0, 0, 0), -100);
        due("the lowest", x.aim(0, 14), -100);
        x.rise(63, 18);
        due("75 .. 100", x.seen(0), 26);
        due("the highest", x.picture(0, 0, 1), 100);
        due("by -101 it is no RAY of the FIELD", x.ray(-101, 0), GROUND);
        x.rise(63, 31);
        due("all END in the GROUND", x.horizon(), 100);
        due("none higher", x.ray(101, 0), GROUND);
        justSteeper();
    }

    /** To PLACE 2 only RAYS come that are no more of the FIELD. */
    private static void justSteeper() {
        // 50 + a at PLACE 1; at INCH 1 the SLOPE becomes a - 52: 2 a - 2 at PLACE 2, whose RISE is 200.
        RoadWater x = Calls.under("warm 62 if inch = 2 and place = 1");
        x.terms(3, 0);
        x.rise(2, 2);
        due("at(100, 2)", x.at(100, 2), 198);
        due("at(101, 2)", x.at(101, 2), 200);
        due("shade(2)", x.shade(2), NOTHING);
        due("horizon()", x.horizon(), 100);
        x.thing(1, 1);
        due("where(1, 0)", x.where(1, 0), 2);
        due("mark(1, 0)", x.mark(1, 0), 2);
        due("mark(1, 1)", x.mark(1, 1), 0);
        x.move(0, 2);
        due("seen(0)", x.seen(0), 0);
        due("by 101 it is", x.ray(101, 2), 0);
    }

    private static void seeing() {
        quote("A THING is SEEN by a RAY that ENDS in it.");
        RoadWater x = from(61, 16);
        x.thing(62, 16);
        x.thing(63, 31);
        due("-100 .. -51", x.seen(0), 50);
        due("-50 .. 100, over the other one", x.seen(1), 151);
        x.rise(62, 15);
        due("1550 at the least", x.seen(0), 201);
        due("nothing past it", x.seen(1), 0);
        x.move(0, 61);
        due("at the EYE", x.seen(0), 0);
        x.rise(62, 0);
        due("all", x.seen(1), 201);
    }

    private static void pictures() {
        quote("Its PICTURES: longest rows of ANGLES, one beside the next, by all of which it is SEEN, lower ones "
                + "first:");
        // At PLACE 62 1341 more at INCH 16 (ANGLES -50 .. 49), nothing at 15 and 17: at PLACE 63 1450 .. 1548,
        // 2891 .. 3089, 1750 .. 1850.
        RoadWater x = eye(Calls.under("warm 99 if inch = 15; warm 0 - 50 if inch = 17"), 61, 16);
        x.terms(1, 9);
        x.thing(63, 20);
        int[][] two = {{-100, -51, 1, 14, 15}, {50, 100, 1, 17, 18}};
        due("pictures(0)", x.pictures(0), 2);
        for (int what = 0; what < 5; what++) {
            due("the lower one, " + what, x.picture(0, 0, what), two[0][what]);
            due("the higher one, " + what, x.picture(0, 1, what), two[1][what]);
            due("no more, " + what, x.picture(0, 2, what), NOTHING);
        }
        RoadWater y = eye(Calls.under("warm 99 if inch = 15; warm 0 - 50 if inch = 17"), 61, 16);
        y.terms(1, 9);
        y.thing(63, 31);
        due("one row", y.pictures(0), 1);
        int[] one = {-100, 100, 1, 14, 30};
        for (int what = 0; what < 5; what++) {
            due("one row, " + what, y.picture(0, 0, what), one[what]);
        }
        singleGap();
        singleAngle();
    }

    /** One ANGLE by which it is not SEEN parts two PICTURES. */
    private static void singleGap() {
        // At PLACE 61 1650 and 61 a: at INCH 16 that of ANGLE 0 alone, which is thrown into the SKY; at INCH 14
        // those of -4 and -3, which fall into the GROUND; at INCH 18 those of 3 and 4 come lower, but into the THING.
        RoadWater x = Calls.under("warm 99 if place = 61 and inch = 15; warm 0 - 50 if place = 61 and inch = 17");
        x.terms(1, 9);
        x.thing(63, 31);
        int[][] rows = {{-26, -5}, {-2, -1}, {1, 23}};
        due("pictures(0)", x.pictures(0), rows.length);
        for (int i = 0; i < rows.length; i++) {
            due("lowest of " + i, x.picture(0, i, 0), rows[i][0]);
            due("highest of " + i, x.picture(0, i, 1), rows[i][1]);
        }
    }

    /** A PICTURE of one ANGLE, beside another THING's. */
    private static void singleAngle() {
        // 250 + a at PLACE 61; at INCH 1 the SLOPE becomes a + 49: 99 by -100, 101 by -99 at PLACE 62; at INCH 1 the
        // SLOPE of -99 becomes -50 + 623: 674 at PLACE 63.
        RoadWater x = eye(Calls.under("warm 17 if inch = 0 and place = 61; warm 99 if inch = 0 and place = 62"), 60, 2);
        x.terms(1, 7);
        for (int i = 0; i < 5; i++) {
            x.thing(i, 1);
        }
        due("THING 5", x.thing(62, 1), 5);
        due("THING 6", x.thing(63, 31), 6);
        due("seen(5)", x.seen(5), 1);
        due("pictures(5)", x.pictures(5), 1);
        int[] one = {-100, -100, 0, 0, 0};
        for (int what = 0; what < 5; what++) {
            due("picture(5, 0, " + what + ")", x.picture(5, 0, what), one[what]);
        }
        due("the other one's lowest", x.picture(6, 0, 0), -99);
        due("its INCH", x.ray(-99, 3), 6);
        // 50 + a at PLACE 1; at INCH 1 the SLOPE becomes a - 50: 2 a at PLACE 2, whose RISE is 200.
        RoadWater y = Calls.under("warm 60 if inch = 2 and place = 1");
        y.terms(3, 0);
        y.rise(2, 2);
        y.thing(2, 1);
        due("by 100 alone", y.pictures(0), 1);
        int[] highest = {100, 100, 0, 0, 0};
        for (int what = 0; what < 5; what++) {
            due("picture(0, 0, " + what + ")", y.picture(0, 0, what), highest[what]);
        }
    }

    private static void uprightness() {
        quote("UPRIGHT (1), if the highest ANGLE sees a greater INCH than the lowest, ON ITS HEAD (2), if a lesser "
                + "one; else 0.");
        RoadWater x = from(61, 16);
        x.thing(63, 31);
        due("1450 .. 1850", x.picture(0, 0, 2), 1);
        // At PLACE 62 891 more at INCH 15, 891 less at INCH 17: 2341 by -100, 959 by 100.
        RoadWater y = eye(Calls.under("warm 99 if inch = 14 or inch = 18; warm 0 if inch = 16"), 61, 16);
        y.terms(1, 9);
        y.thing(63, 31);
        int[] onItsHead = {-100, 100, 2, 8, 24};
        for (int what = 0; what < 5; what++) {
            due("on its head, " + what, y.picture(0, 0, what), onItsHead[what]);
        }
        // 360 less at INCH 17: 1450 by -100, 1490 by 100, 1390 by 50, 1748 by 49.
        RoadWater z = eye(Calls.under("warm 50 if inch = 18"), 61, 16);
        z.terms(1, 9);
        z.thing(63, 31);
        int[] neither = {-100, 100, 0, 13, 17};
        for (int what = 0; what < 5; what++) {
            due("neither, " + what, z.picture(0, 0, what), neither[what]);
        }
        RoadWater w = from(62, 16);
        w.rise(63, 16);
        w.thing(63, 1);
        int[] flat = {-50, 49, 0, 0, 0};
        for (int what = 0; what < 5; what++) {
            due("one INCH, " + what, w.picture(0, 0, what), flat[what]);
        }
    }

    private static void hiding() {
        quote("HIDDEN are its INCHES (of those that are there) that no RAY sees.");
        RoadWater x = from(61, 16);
        x.thing(63, 31);
        due("all but 14 .. 18", x.hidden(0), Calls.HIGH - (31 << 14));
        x.rise(63, 14);
        due("18 are there, 0 .. 4 are SEEN", x.hidden(0), (1 << 18) - 1 - 31);
        x.rise(63, 0);
        // Another THING's INCH 0 is SEEN by -100 .. -51: it is not this one's.
        x.rise(62, 15);
        x.thing(62, 1);
        due("all but 15 .. 18", x.hidden(0), Calls.HIGH - (15 << 15));
        due("nothing of the other one", x.hidden(1), 0);
        RoadWater y = from(61, 16);
        y.thing(63, 17);
        due("17 are there, 14 .. 16 are SEEN", y.hidden(0), (1 << 14) - 1);
        y.move(0, 60);
        due("all of them", y.hidden(0), (1 << 17) - 1);
    }

    private static void water() {
        quote("WATER are ANGLES below 0 whose RAYS END in the SKY.");
        RoadWater x = from(62, 16);
        int[] all = {100, -1, -100, 63};
        for (int what = 0; what < 4; what++) {
            due("water(" + what + ")", x.water(what), all[what]);
        }
        x.thing(63, 16);
        int[] some = {50, -1, -50, 63};
        for (int what = 0; what < 4; what++) {
            due("no THING, water(" + what + ")", x.water(what), some[what]);
        }
        x.rise(63, 16);
        x.move(0, 0);
        for (int what = 0; what < 4; what++) {
            due("no GROUND, water(" + what + ")", x.water(what), some[what]);
        }
        x.move(0, 63);
        int[] none = {0, NOTHING, NOTHING, NOTHING};
        for (int what = 0; what < 4; what++) {
            due("of ANGLES from 0 on none is, water(" + what + ")", x.water(what), none[what]);
        }
        // 43 PLACES on 50 and 43 times the ANGLE: -1 alone.
        RoadWater y = from(20, 0);
        int[] one = {1, -1, -1, 63};
        for (int what = 0; what < 4; what++) {
            due("-1 alone, water(" + what + ")", y.water(what), one[what]);
        }
    }

    private static void levels() {
        quote("A LEVEL reads at a PLACE behind the EYE the height of the RAY of ANGLE 0 less that at which it left: "
                + "ITS ERROR.");
        RoadWater x = eye(Calls.under("warm 40 - inch"), 10, 16);
        due("level(9)", x.level(9), NOTHING);
        due("level(10)", x.level(10), NOTHING);
        due("level(11)", x.level(11), 0);
        due("level(12)", x.level(12), 2);
        due("level(13)", x.level(13), 6);
        x.rise(13, 16);
        due("not from the RISE on", x.level(13), 6);
        Calls.law(x, "warm inch");
        x.force(1);
        due("below 0", x.level(13), -6);
        x.terms(2, 63);
        due("level(63) from 63", x.level(63), NOTHING);
    }

    private static void sights() {
        quote("SIGHTS, 12 at most: by an ANGLE a THING was SEEN at an INCH, or (INCH NONE) it was not.");
        RoadWater x = from(61, 16);
        x.thing(63, 31);
        x.thing(62, 16);
        int[][] so = {{0, 0, 16}, {100, 0, 18}, {-100, 1, 15}, {500, 0, 26}, {-500, 1, 11}, {0, 1, NONE},
            {-51, 0, NONE}};
        for (int i = 0; i < so.length; i++) {
            due("sight " + i, x.sight(so[i][0], so[i][1], so[i][2]), i + 1);
            due("it is so", x.wrong(0), 0);
        }
        int[][] otherwise = {{0, 0, 15}, {0, 0, NONE}, {0, 1, 16}, {-51, 0, 15}, {-100, 1, NONE}};
        for (int i = 0; i < otherwise.length; i++) {
            due("sight " + (7 + i), x.sight(otherwise[i][0], otherwise[i][1], otherwise[i][2]), 8 + i);
            due("it is not so", x.wrong(0), i + 1);
        }
        due("a 13th", x.sight(0, 0, 16), -5);
        due("12", x.count(2), 12);
        due("drop(0)", x.drop(0), 11);
        due("the 12th again", x.sight(0, 0, 16), 12);
    }

    private static void fitting() {
        quote("An HOUR FITS, if all SIGHTS would be so then.");
        // From HOUR 18 on 9 times 2 more at PLACE 62: 1668 and twice the ANGLE at PLACE 63.
        RoadWater x = eye(Calls.under("warm 40 - inch if hour > 17"), 61, 16);
        x.terms(1, 9);
        x.thing(63, 31);
        due("no SIGHTS", x.fits(), Calls.ALL_HOURS);
        x.sight(0, 0, 16);
        due("in all of them", x.fits(), Calls.ALL_HOURS);
        x.sight(24, 0, 16);
        due("1698 up to 17, 1716 then", x.fits(), (1 << 18) - 1);
        x.sight(-34, 0, 16);
        due("1582 up to 17, 1600 then: never both", x.fits(), 0);
        x.drop(1);
        due("from 18 on", x.fits(), Calls.ALL_HOURS - (1 << 18) + 1);
    }

    private static void draws() {
        quote("A RAY TREMBLES with a SEED: s is the SEED (0 .. 1,000,000); a DRAW of n: s becomes (s times 1103 and "
                + "12345) modulo 1,000,003, it is s modulo n.");
        RoadWater x = from(62, 16);
        x.rise(63, 16);
        // 895 times 1103 and 12345 is 999,530; with 896 it is beyond 1,000,003.
        for (int seed : new int[] {0, 1, 895, 896, 2, 500000, 999999, 1000000}) {
            long s = (seed * 1103L + 12345) % 1000003;
            int draw = (int) (s % 101) - 50;
            // 1650, the ANGLE and the DRAW: 1600 is just not below the RISE.
            due("tremble(" + seed + "), just not below", x.tremble(seed, -50 - draw, 50, 1), -50 - draw < -50 ? 0 : 1);
            due("it goes past", x.trembled(0, 0), SKY);
            x.tremble(seed, -51 - draw, 50, 1);
            due("just below", x.trembled(0, 0), GROUND);
        }
        due("SEED -1", x.tremble(-1, 0, 0, 1), -1);
        due("SEED 1000001", x.tremble(1000001, 0, 0, 1), -1);
    }

    private static void trembling() {
        quote("At each step, behind that the SLOPE is added, a DRAW of 2 t and 1 less t is added, too, t the TREMBLING "
                + "0 .. 50.");
        RoadWater x = from(61, 16);
        x.rise(63, 16);
        for (int t : new int[] {0, 1, 7, 49, 50}) {
            long s = 77;
            int sum = 0;
            for (int step = 0; step < 2; step++) {
                s = (s * 1103 + 12345) % 1000003;
                sum += (int) (s % (2 * t + 1)) - t;
            }
            // 1650, twice the ANGLE and both DRAWS.
            int angle = Math.floorDiv(-50 - sum + 1, 2);
            x.tremble(77, angle, t, 1);
            due("not below, TREMBLING " + t, x.trembled(0, 0), SKY);
            x.tremble(77, angle - 1, t, 1);
            due("below, TREMBLING " + t, x.trembled(0, 0), GROUND);
        }
        due("TREMBLING 51", x.tremble(0, 0, 51, 1), -1);
        due("TREMBLING -1", x.tremble(0, 0, -1, 1), -1);
        // With a DRAW at the step the RAY is bent where the DRAW brought it: at INCH 17, not at 16.
        RoadWater y = eye(Calls.under("warm 99 if place = 62 and inch = 16"), 61, 16);
        y.rise(63, 16);
        y.terms(1, 9);
        int seed = seedOf(50);
        // 1650, 49 and 50 is 1749; 99 - 10 warmer below: 801 more.
        due("no SLOPE is TREMBLED", y.tremble(seed, 49, 50, 1), 1);
        due("straight it is 1748", y.at(49, 63), 1748);
        y.rise(63, 22);
        y.tremble(seed, 49, 50, 1);
        due("lifted", y.trembled(0, 0), SKY);
    }

    /** The lowest SEED whose first DRAW of 101 less 50 is this one. */
    private static int seedOf(int draw) {
        int seed = 0;
        while ((seed * 1103L + 12345) % 1000003 % 101 - 50 != draw) {
            seed++;
        }
        return seed;
    }

    private static void rows() {
        quote("A ROW of RISES: the TAPE's bytes from PLACE 0 on: 0 .. 31; others, and those beyond PLACE 63, are WORN: "
                + "none.");
        byte[] bytes = new byte[64];
        for (int i = 0; i < 64; i++) {
            bytes[i] = (byte) (i % 32);
        }
        RoadWater x = new RoadWater();
        Calls.feed(x, bytes);
        due("64 bytes", x.row(), 64);
        due("none WORN", x.worn(), 0);
        for (int place = 0; place < 64; place++) {
            due("RISE of PLACE " + place, x.rise(place, 9), place % 32);
        }
        Calls.feed(x, new byte[65]);
        due("65 bytes", x.row(), 64);
        due("one beyond PLACE 63", x.worn(), 1);
        for (int place = 0; place < 64; place++) {
            due("RISE of PLACE " + place, x.rise(place, 9), 0);
        }
        Calls.feed(x, new byte[] {31, 32, 0, 127, -128, -1, 1});
        due("31, 0 and 1", x.row(), 3);
        due("32, 127, 128 and 255", x.worn(), 4);
        int[] rises = {31, 9, 0, 9, 9, 9, 1, 9};
        for (int place = 0; place < rises.length; place++) {
            due("RISE of PLACE " + place, x.rise(place, 0), rises[place]);
        }
    }

    private static void images() {
        quote("IMAGES 0, 1 keep all but the TAPE, FAULT, WORN, the latest TREMBLING; BACK to one all that it keeps is "
                + "as it was then (IMAGES stay).");
        RoadWater x = new RoadWater();
        due("image(-1)", x.image(-1), -1);
        due("image(2)", x.image(2), -1);
        due("image(0)", x.image(0), 0);
        fill(x, 3);
        due("image(1)", x.image(1), 0);
        x.back(0);
        fill(x, 5);
        stands(x, 5);
        x.tremble(7, 0, 0, 2);
        Calls.feed(x, new byte[] {99, 99, 1});
        x.row();
        Calls.law(x, "warm");
        Calls.feed(x, new byte[] {1, 2});
        for (int time = 0; time < 2; time++) {
            due("back(0)", x.back(0), 0);
            stands(x, 0);
            due("back(1)", x.back(1), 0);
            stands(x, 3);
        }
        x.terms(1, 8);
        due("image(1)", x.image(1), 0);
        due("back(0)", x.back(0), 0);
        stands(x, 0);
        due("back(1)", x.back(1), 0);
        due("it is kept anew", x.count(12), 8);
        due("the TAPE is as it is", x.count(4), 2);
        due("FAULT is as it is", x.fault(), 4);
        due("WORN is as it is", x.worn(), 2);
        due("the latest TREMBLING is as it is", x.trembled(1, 1), 5);
        due("no more of it", x.trembled(2, 1), NONE);
        due("the TAPE is as it is", x.row(), 2);
        due("its bytes are", x.rise(0, 0), 1);
        due("its bytes are", x.rise(1, 0), 2);
    }

    /** Makes a new road what this number, 1 .. 5, says. */
    private static void fill(RoadWater x, int n) {
        x.ground(0, 63, n);
        for (int i = 0; i < n; i++) {
            x.rise(10 + i, n);
            x.thing(n + i, n + i);
            x.sight(0, i, i % 2 == 0 ? NONE : 31);
            Calls.law(x, "warm ground * 10 + " + i);
        }
        x.force(n - 1);
        for (int what = 0; what < 4; what++) {
            x.terms(what, n - 1);
        }
    }

    private static void stands(RoadWater x, int n) {
        for (int what = 0; what < 4; what++) {
            due("count(" + what + ")", x.count(what), n);
            due("count(" + (11 + what) + ")", x.count(11 + what), n == 0 ? new int[] {12, 1, 0, 16}[what] : n - 1);
        }
        due("count(10)", x.count(10), n - 1);
        due("warm(9, 0, 0)", x.warm(9, 0, 0), n == 0 ? 10 : n * 10 + n - 1);
        for (int i = 0; i < 6; i++) {
            due("of(" + i + ", 0)", x.of(i, 0), i < n ? n + i : NONE);
            due("of(" + i + ", 1)", x.of(i, 1), i < n ? n + i : NONE);
            due("rise at " + (10 + i), x.rise(10 + i, i < n ? n : 0), i < n ? n : 0);
        }
        // By ANGLE 0 the first THING is SEEN, so its SIGHT is not so, either.
        due("wrong(0)", x.wrong(0), n == 0 ? 0 : n / 2 + 1);
        due("seen(0)", x.seen(0) > 0 ? 1 : 0, n == 0 ? 0 : 1);
    }
}
