import java.io.IOException;
import java.util.ArrayList;
import java.util.IdentityHashMap;
import java.util.List;
import java.util.Map;

/**
 * The document's promises, one by one: each is quoted, and its calls are made
 * just within their bounds and just beyond them. Behind each call stands what
 * status() and count(5) to count(9) answer, and behind one that is REFUSED, or
 * that only asks, that nothing else has changed.
 */
public final class EdgeTests {
    private static final int NONE = Calls.NONE;
    private static final int NOTHING = Calls.NOTHING;
    private static final int LOW = Calls.LOW;
    private static final int HIGH = Calls.HIGH;
    private static final int[] REFUSALS = {-1, -2, -3, -5, -6};

    private static Document promises;

    private interface Start {
        void on(RoadWater x);
    }

    private interface Call {
        int on(RoadWater x);
    }

    private static final Start FRESH = x -> { };
    private static final Start ROOMY = EdgeTests::makeRoomy;
    private static final Start CROWDED = EdgeTests::makeCrowded;
    private static final Start[] STARTS = {FRESH, ROOMY, CROWDED};
    private static final Start[] FILLED = {ROOMY, CROWDED};
    private static final Map<Start, List<String>> TOLD = new IdentityHashMap<>();

    public static void main(String[] args) throws IOException {
        promises = Document.between("where it could be below 0.", "## Not promised");
        p01(); p02(); p03(); p04(); p05(); p06(); p07(); p08(); p09(); p10(); p11();
        p12(); p13(); p14(); p15(); p16(); p17(); p18(); p19(); p20(); p21(); p22();
        p23(); p24(); p25(); p26(); p27(); p28(); p29(); p30(); p31(); p32(); p33();
        p34(); p35(); p36(); p37(); p38(); p39(); p40(); p41(); p42(); p43(); p44();
        promises.allQuoted();
        constants();
        calls();
        Calls.finish("edges");
    }

    private static void quote(String words) {
        promises.quote(words);
    }

    private static void due(String call, int got, int want) {
        Calls.due(call, got, want);
    }

    /** Some of all, and room for just one more of each; FAULT is 7, WORN is 2, the latest call was not REFUSED. */
    private static void makeRoomy(RoadWater x) {
        Calls.feed(x, new byte[] {2, 77, 0, 3, 99});
        x.row();
        x.rise(33, 2);
        x.ground(0, 9, 2);
        x.ground(50, 63, 7);
        for (int i = 0; i < 7; i++) {
            x.thing(8 + 8 * i, 1 + 4 * i);
        }
        String[] laws = {"warm ground * 10 + hour", "warm 30 - inch if hour > 11", "warm 20 if inch < 8",
            "warm 12 - above * 3 if above < 7", "warm place"};
        for (String law : laws) {
            Calls.law(x, law);
        }
        x.force(1);
        x.image(0);
        int[] terms = {14, 2, 1, 9};
        for (int what = 0; what < 4; what++) {
            x.terms(what, terms[what]);
        }
        for (int i = 0; i < 11; i++) {
            x.sight(-40 + 9 * i, i % 7, i % 3 == 0 ? NONE : i);
        }
        x.tremble(5, -30, 20, 4);
        Calls.law(x, "warm 1 1");
        Calls.feed(x, "warm 7" + " ".repeat(374));
        x.rise(34, 1);
    }

    /** All that there may be of each, both IMAGES kept; FAULT is 9, WORN is 2, the latest call was REFUSED by -3. */
    private static void makeCrowded(RoadWater x) {
        makeRoomy(x);
        Calls.law(x, "warm 66");
        x.image(1);
        x.back(0);
        Calls.law(x, "warm 1 + + 1");
        x.back(1);
        x.thing(3, 30);
        x.sight(-60, 7, 29);
        x.rise(35, 4);
        x.tremble(9, -25, 30, 40);
        byte[] bytes = new byte[400];
        for (int i = 0; i < bytes.length; i++) {
            bytes[i] = (byte) (i % 37);
        }
        Calls.feed(x, bytes);
        x.thing(3, 1);
    }

    private static Start with(Start start, Start more) {
        return x -> {
            start.on(x);
            more.on(x);
        };
    }

    private static RoadWater made(Start start) {
        RoadWater x = new RoadWater();
        start.on(x);
        return x;
    }

    /** A call that is not REFUSED. */
    private static void taken(Start start, String name, Call call, int want) {
        // A REFUSED call ahead: status() becomes 0 by this one.
        Start refused = with(start, x -> x.rise(64, 0));
        RoadWater ahead = made(refused);
        RoadWater x = made(refused);
        due(name, call.on(x), want);
        due("status() behind " + name, x.status(), 0);
        for (int i = 0; i < REFUSALS.length; i++) {
            due("count(" + (5 + i) + ") behind " + name, x.count(5 + i), ahead.count(5 + i));
        }
    }

    /** A call that is REFUSED and changes nothing else. */
    private static void refused(Start start, String name, Call call, int by) {
        refused(start, name, call, by, FRESH);
    }

    /** A call that is REFUSED and changes nothing else but what this does instead. */
    private static void refused(Start start, String name, Call call, int by, Start instead) {
        RoadWater ahead = made(start);
        RoadWater x = made(start);
        due(name, call.on(x), by);
        due("status() behind " + name, x.status(), by);
        for (int i = 0; i < REFUSALS.length; i++) {
            int more = REFUSALS[i] == by ? 1 : 0;
            due("count(" + (5 + i) + ") behind " + name, x.count(5 + i), ahead.count(5 + i) + more);
        }
        same(name, told(with(start, instead)), told(with(start, y -> call.on(y))));
    }

    private static void allRefused(String name, Call call, int by) {
        for (Start start : STARTS) {
            refused(start, name, call, by);
            due("fault() behind " + name, made(with(start, x -> call.on(x))).fault(), made(start).fault());
        }
    }

    /** A call that only asks: it answers this and changes nothing. */
    private static void asked(Start start, String name, Call call, int want) {
        RoadWater ahead = made(start);
        RoadWater x = made(start);
        due(name, call.on(x), want);
        due("status() behind " + name, x.status(), ahead.status());
        due("fault() behind " + name, x.fault(), ahead.fault());
        for (int what = 5; what < 10; what++) {
            due("count(" + what + ") behind " + name, x.count(what), ahead.count(what));
        }
        RoadWater refused = made(with(start, y -> y.rise(64, 0)));
        call.on(refused);
        due("status() behind a REFUSED call and " + name, refused.status(), -1);
        same(name, told(start), told(with(start, y -> call.on(y))));
    }

    private static void allAsked(String name, Call call, int want) {
        for (Start start : STARTS) {
            asked(start, name, call, want);
        }
    }

    /** A call that asks within the bounds: there is an answer, and nothing is changed. */
    private static void answered(Start start, String name, Call call, int nothing) {
        int answer = call.on(made(start));
        if (answer == nothing) {
            Calls.fail(name + " answered " + nothing);
        }
        asked(start, name, call, answer);
    }

    private static void same(String name, List<String> ahead, List<String> behind) {
        for (int i = 0; i < Math.max(ahead.size(), behind.size()); i++) {
            String was = i < ahead.size() ? ahead.get(i) : "nothing more";
            String is = i < behind.size() ? behind.get(i) : "nothing more";
            if (!was.equals(is)) {
                Calls.fail("behind " + name + ": " + is + ", ahead of it " + was);
                return;
            }
        }
    }

    /**
     * All that an object can be made to tell, and its IMAGES, but for status(),
     * fault() and count(5) to count(9). Asking spoils it, so each part is asked
     * of one of its own.
     */
    private static List<String> told(Start start) {
        return TOLD.computeIfAbsent(start, EdgeTests::tellAll);
    }

    private static List<String> tellAll(Start start) {
        List<String> told = new ArrayList<>();
        tellLight(told, made(start));
        Start[] images = {FRESH, x -> x.back(0), x -> x.back(1)};
        for (Start image : images) {
            Start then = with(start, image);
            tellNumbers(told, made(then));
            tellSights(told, made(then));
            tellLaws(told, made(then));
            tellPlaces(told, made(then));
            tellRises(told, made(then));
            tellGrounds(told, made(then));
            tellText(told, made(then));
        }
        return told;
    }

    private static void tell(List<String> told, String name, int value) {
        told.add(name + " is " + value);
    }

    private static void tellLight(List<String> told, RoadWater x) {
        for (int i = 0; i < 8; i++) {
            tell(told, "seen(" + i + ")", x.seen(i));
            tell(told, "pictures(" + i + ")", x.pictures(i));
            tell(told, "hidden(" + i + ")", x.hidden(i));
            tell(told, "ray(-30, " + i + ")", x.ray(-30, i));
            tell(told, "water(" + i + ")", x.water(i));
        }
        tell(told, "hours(6)", x.hours(6));
        tell(told, "horizon()", x.horizon());
        tell(told, "shade(20)", x.shade(20));
        tell(told, "level(20)", x.level(20));
        tell(told, "fits()", x.fits());
    }

    private static void tellNumbers(List<String> told, RoadWater x) {
        for (int what = 0; what < 15; what++) {
            if (what < 5 || what > 9) {
                tell(told, "count(" + what + ")", x.count(what));
            }
        }
        for (int i = 0; i < 8; i++) {
            for (int what = 0; what < 3; what++) {
                tell(told, "of(" + i + ", " + what + ")", x.of(i, what));
            }
        }
        for (int i = 0; i < 41; i++) {
            tell(told, "trembled(" + i + ", 0)", x.trembled(i, 0));
            tell(told, "trembled(" + i + ", 1)", x.trembled(i, 1));
        }
        tell(told, "worn()", x.worn());
    }

    private static void tellPlaces(List<String> told, RoadWater x) {
        for (int place = 0; place < 64; place++) {
            tell(told, "thing(" + place + ", 1)", x.thing(place, 1));
        }
    }

    private static void tellSights(List<String> told, RoadWater x) {
        for (int i = 0; i < 13; i++) {
            tell(told, "wrong(0), " + i, x.wrong(0));
            tell(told, "wrong(12), " + i, x.wrong(12));
            tell(told, "drop(0), " + i, x.drop(0));
        }
    }

    private static void tellLaws(List<String> told, RoadWater x) {
        tell(told, "warm(7, 5, 9)", x.warm(7, 5, 9));
        for (int i = 0; i < 6; i++) {
            tell(told, "force(" + i + ")", x.force(i));
            tell(told, "LAW " + i + ", warm(7, 5, 9)", x.warm(7, 5, 9));
            tell(told, "LAW " + i + ", warm(0, 0, 0)", x.warm(0, 0, 0));
            tell(told, "LAW " + i + ", warm(63, 31, 23)", x.warm(63, 31, 23));
        }
    }

    private static void tellRises(List<String> told, RoadWater x) {
        for (int place = 0; place < 64; place++) {
            tell(told, "RISE of PLACE " + place, x.rise(place, 0));
        }
        tell(told, "row()", x.row());
        tell(told, "worn() behind it", x.worn());
        for (int place = 0; place < 64; place++) {
            tell(told, "RISE of PLACE " + place + " by the TAPE", x.rise(place, 0));
        }
    }

    private static void tellGrounds(List<String> told, RoadWater x) {
        // LAW 0 of a road that has 5 and more tells the GROUND.
        x.force(x.count(1) >= 5 ? 0 : Calls.law(x, "warm ground * 10"));
        for (int place = 0; place < 64; place++) {
            tell(told, "GROUND of PLACE " + place, x.warm(place, 0, 0));
        }
    }

    private static void tellText(List<String> told, RoadWater x) {
        int law = x.law();
        tell(told, "law()", law);
        x.force(law);
        tell(told, "warm(0, 0, 0) by the TAPE", x.warm(0, 0, 0));
    }

    private static void p01() {
        quote("Promise 1: A new object RoadWater(): A flat road without THINGS.");
        RoadWater x = new RoadWater();
        int[] counts = {0, 0, 0, 0, 0, 0, 0, 0, 0, 0, NONE, 12, 1, 0, 16};
        for (int what = 0; what < counts.length; what++) {
            due("count(" + what + ")", x.count(what), counts[what]);
        }
        for (int i = -1; i < 9; i++) {
            due("of(" + i + ", 0)", x.of(i, 0), NONE);
        }
        for (int place = 0; place < 64; place++) {
            due("rise(" + place + ", 0)", x.rise(place, 0), 0);
            due("at(0, " + place + ")", x.at(0, place), 1650);
        }
        due("ground(0, 63, 0)", x.ground(0, 63, 0), 0);
    }

    private static void p02() {
        quote("Promise 2: rise int rise(int place, int rise): RISE of a PLACE: what it was. -1.");
        taken(FRESH, "rise(0, 0)", x -> x.rise(0, 0), 0);
        taken(FRESH, "rise(63, 31)", x -> x.rise(63, 31), 0);
        taken(ROOMY, "rise(0, 31)", x -> x.rise(0, 31), 2);
        taken(CROWDED, "rise(35, 0)", x -> x.rise(35, 0), 4);
        due("it is that then", made(with(ROOMY, x -> x.rise(63, 31))).rise(63, 0), 31);
        int[][] bad = {{-1, 0}, {64, 0}, {0, -1}, {0, 32}, {LOW, 0}, {HIGH, 0}, {0, LOW}, {0, HIGH}, {64, 32}};
        for (int[] b : bad) {
            allRefused("rise(" + b[0] + ", " + b[1] + ")", x -> x.rise(b[0], b[1]), -1);
        }
    }

    private static void p03() {
        quote("Promise 3: ground int ground(int from, int to, int ground): GROUND of PLACES from .. to: how many are "
                + "otherwise than they were. -1 (to below from, too).");
        taken(FRESH, "ground(0, 63, 0)", x -> x.ground(0, 63, 0), 0);
        taken(FRESH, "ground(0, 63, 9)", x -> x.ground(0, 63, 9), 64);
        taken(ROOMY, "ground(0, 0, 0)", x -> x.ground(0, 0, 0), 1);
        taken(ROOMY, "ground(63, 63, 9)", x -> x.ground(63, 63, 9), 1);
        taken(ROOMY, "ground(63, 63, 7)", x -> x.ground(63, 63, 7), 0);
        taken(ROOMY, "ground(9, 50, 2)", x -> x.ground(9, 50, 2), 41);
        taken(CROWDED, "ground(0, 63, 0)", x -> x.ground(0, 63, 0), 24);
        int[][] bad = {{-1, 5, 3}, {5, 64, 3}, {6, 5, 3}, {63, 0, 3}, {64, 64, 3}, {-1, -1, 3}, {5, 5, -1},
            {5, 5, 10}, {LOW, 5, 3}, {5, HIGH, 3}, {HIGH, LOW, 3}, {5, 5, LOW}, {5, 5, HIGH}};
        for (int[] b : bad) {
            allRefused("ground(" + b[0] + ", " + b[1] + ", " + b[2] + ")", x -> x.ground(b[0], b[1], b[2]), -1);
        }
    }

    private static void p04() {
        quote("Promise 4: thing int thing(int place, int tall): A THING: its number. -1; -3 one is there; -5.");
        taken(FRESH, "thing(0, 1)", x -> x.thing(0, 1), 0);
        taken(FRESH, "thing(63, 31)", x -> x.thing(63, 31), 0);
        taken(ROOMY, "thing(63, 31)", x -> x.thing(63, 31), 7);
        int[][] bad = {{-1, 5}, {64, 5}, {5, 0}, {5, 32}, {5, -1}, {LOW, 5}, {HIGH, 5}, {5, LOW}, {5, HIGH}, {16, 32}};
        for (int[] b : bad) {
            allRefused("thing(" + b[0] + ", " + b[1] + ")", x -> x.thing(b[0], b[1]), -1);
        }
        for (Start start : FILLED) {
            refused(start, "thing(8, 1)", x -> x.thing(8, 1), -3);
            refused(start, "thing(56, 31)", x -> x.thing(56, 31), -3);
        }
        refused(CROWDED, "thing(4, 1)", x -> x.thing(4, 1), -5);
        refused(CROWDED, "thing(63, 31)", x -> x.thing(63, 31), -5);
    }

    private static void p05() {
        quote("Promise 5: move int move(int thing, int place): A THING goes to another PLACE: where it was. -1; -2; "
                + "-3 another one is there.");
        taken(ROOMY, "move(0, 63)", x -> x.move(0, 63), 8);
        taken(ROOMY, "move(6, 0)", x -> x.move(6, 0), 56);
        taken(ROOMY, "move(3, 32): it is no other one that is there", x -> x.move(3, 32), 32);
        taken(CROWDED, "move(7, 63)", x -> x.move(7, 63), 3);
        due("it is there then", made(with(ROOMY, x -> x.move(0, 63))).of(0, 0), 63);
        int[][] bad = {{0, -1}, {0, 64}, {0, LOW}, {0, HIGH}, {9, 64}, {-1, -1}};
        for (int[] b : bad) {
            allRefused("move(" + b[0] + ", " + b[1] + ")", x -> x.move(b[0], b[1]), -1);
        }
        for (int thing : new int[] {-1, 8, LOW, HIGH}) {
            allRefused("move(" + thing + ", 5)", x -> x.move(thing, 5), -2);
            allRefused("move(" + thing + ", 8)", x -> x.move(thing, 8), -2);
        }
        refused(FRESH, "move(0, 5)", x -> x.move(0, 5), -2);
        refused(ROOMY, "move(7, 5)", x -> x.move(7, 5), -2);
        for (Start start : FILLED) {
            refused(start, "move(0, 16)", x -> x.move(0, 16), -3);
            refused(start, "move(6, 8)", x -> x.move(6, 8), -3);
        }
    }

    private static void p06() {
        quote("Promise 6: of int of(int thing, int what): Of a THING 0 PLACE, 1 TALL, 2 how many of its INCHES are "
                + "there. NONE.");
        int[] first = {8, 1, 1};
        int[] last = {56, 25, 25};
        for (int what = 0; what < 3; what++) {
            int asking = what;
            asked(ROOMY, "of(0, " + what + ")", x -> x.of(0, asking), first[what]);
            asked(ROOMY, "of(6, " + what + ")", x -> x.of(6, asking), last[what]);
        }
        asked(ROOMY, "of(7, 0)", x -> x.of(7, 0), NONE);
        asked(FRESH, "of(0, 0)", x -> x.of(0, 0), NONE);
        int[][] bad = {{-1, 0}, {8, 0}, {0, -1}, {0, 3}, {LOW, 0}, {HIGH, 0}, {0, LOW}, {0, HIGH}};
        for (int[] b : bad) {
            allAsked("of(" + b[0] + ", " + b[1] + ")", x -> x.of(b[0], b[1]), NONE);
        }
    }

    private static void p07() {
        quote("Promise 7: terms int terms(int what, int value): A TERM: what it was. -1.");
        int[] were = {14, 2, 1, 9};
        int[] top = {23, 9, 63, 31};
        for (int what = 0; what < 4; what++) {
            int term = what;
            taken(ROOMY, "terms(" + term + ", 0)", x -> x.terms(term, 0), were[term]);
            taken(ROOMY, "terms(" + term + ", top)", x -> x.terms(term, top[term]), were[term]);
            due("it is that then", made(with(ROOMY, x -> x.terms(term, top[term]))).count(11 + term), top[term]);
            for (int value : new int[] {-1, top[term] + 1, LOW, HIGH}) {
                allRefused("terms(" + term + ", " + value + ")", x -> x.terms(term, value), -1);
            }
        }
        for (int what : new int[] {-1, 4, LOW, HIGH}) {
            allRefused("terms(" + what + ", 0)", x -> x.terms(what, 0), -1);
        }
    }

    private static void p08() {
        quote("Promise 8: feed int feed(int a, int b, int c, int d, int e): Twenty bytes come behind the TAPE, four of "
                + "each number, the highest first: how many it has. NONE, if there would be more than 400.");
        Call feed = x -> x.feed(0x01020304, 0x05060708, 0x090a0b0c, 0x0d0e0f10, 0x1112131f);
        RoadWater fresh = made(FRESH);
        due("feed", feed.on(fresh), 20);
        due("row()", fresh.row(), 20);
        for (int place = 0; place < 20; place++) {
            due("the byte at " + place, fresh.rise(place, 0), place == 19 ? 31 : place + 1);
        }
        RoadWater roomy = made(ROOMY);
        due("feed to 400", feed.on(roomy), 400);
        due("status()", roomy.status(), 0);
        due("feed beyond 400", feed.on(roomy), NONE);
        due("status(): it is not REFUSED", roomy.status(), 0);
        due("count(4)", roomy.count(4), 400);
        asked(CROWDED, "feed beyond 400", feed, NONE);
        asked(with(CROWDED, x -> x.end(381)), "feed behind 381", feed, NONE);
        asked(with(ROOMY, x -> feed.on(x)), "feed behind 400", feed, NONE);
        due("feed behind 380", feed.on(made(with(CROWDED, x -> x.end(380)))), 400);
        RoadWater behind = made(with(FRESH, x -> x.feed(-1, LOW, HIGH, 0, -256)));
        due("WORN of 255 255 255 255 128 0 0 0 127 255 255 255 0 0 0 0 255 255 255 0", behind.row(), 8);
        due("worn()", behind.worn(), 12);
    }

    private static void p09() {
        quote("Promise 9: end int end(int n): The TAPE has its first n bytes alone: n. NONE, if it has not so many, or "
                + "n is below 0.");
        asked(ROOMY, "end(380)", x -> x.end(380), 380);
        asked(ROOMY, "end(381)", x -> x.end(381), NONE);
        asked(CROWDED, "end(400)", x -> x.end(400), 400);
        asked(FRESH, "end(0)", x -> x.end(0), 0);
        asked(FRESH, "end(1)", x -> x.end(1), NONE);
        for (int n : new int[] {-1, 401, LOW, HIGH}) {
            allAsked("end(" + n + ")", x -> x.end(n), NONE);
        }
        RoadWater x = made(with(FRESH, y -> y.feed(0x01020304, 0x05060708, 0x090a0b0c, 0x0d0e0f10, 0x1112131f)));
        due("end(3)", x.end(3), 3);
        due("end(4)", x.end(4), NONE);
        due("row()", x.row(), 3);
        due("the first ones", x.rise(0, 0) * 100 + x.rise(1, 0) * 10 + x.rise(2, 0), 123);
        due("no more of them", x.rise(3, 0), 0);
        RoadWater y = made(CROWDED);
        due("end(0)", y.end(0), 0);
        due("status()", y.status(), -3);
        due("count(4)", y.count(4), 0);
    }

    private static void p10() {
        quote("Promise 10: row int row(): A ROW, the TAPE is empty then: how many RISES came. -6 the TAPE is empty.");
        for (Start start : STARTS) {
            refused(with(start, x -> x.end(0)), "row() of no bytes", RoadWater::row, -6);
            Start one = with(start, x -> Calls.feed(x, new byte[] {31}));
            taken(one, "row() of one byte", RoadWater::row, 1);
            due("the TAPE", made(with(one, RoadWater::row)).count(4), 0);
            Start worn = with(start, x -> Calls.feed(x, new byte[] {32}));
            taken(worn, "row() of one that is WORN", RoadWater::row, 0);
            due("the TAPE", made(with(worn, RoadWater::row)).count(4), 0);
        }
        // Of 37 by 37 bytes those up to 31: 32 and 27.
        taken(CROWDED, "row() of 400", RoadWater::row, 59);
    }

    private static void p11() {
        quote("Promise 11: worn int worn(): How many bytes were WORN in the latest row() that was not REFUSED (0 ahead "
                + "of any).");
        asked(FRESH, "worn() ahead of any", RoadWater::worn, 0);
        asked(ROOMY, "worn()", RoadWater::worn, 2);
        asked(with(FRESH, RoadWater::row), "worn() behind one that was REFUSED", RoadWater::worn, 0);
        Start refused = with(with(ROOMY, x -> x.end(0)), RoadWater::row);
        asked(refused, "worn() behind one that was REFUSED", RoadWater::worn, 2);
        asked(with(CROWDED, RoadWater::row), "worn() of 400", RoadWater::worn, 341);
        Start none = with(with(ROOMY, x -> Calls.feed(x, new byte[64])), RoadWater::row);
        asked(none, "worn() of none", RoadWater::worn, 0);
    }

    private static void p12() {
        quote("Promise 12: law int law(): The TAPE, which is empty then, becomes a LAW: its number. -5 (ahead of "
                + "reading it; the TAPE is empty then, too); -6 (blanks alone: FAULT at the end).");
        Start emptied = x -> x.end(0);
        taken(ROOMY, "law()", RoadWater::law, 5);
        due("the TAPE", made(with(ROOMY, RoadWater::law)).count(4), 0);
        due("LAWS", made(with(ROOMY, RoadWater::law)).count(1), 6);
        due("FAULT", made(with(ROOMY, RoadWater::law)).fault(), NONE);
        String[] texts = {"warm 1", "warm", "", "   "};
        for (String text : texts) {
            Start fed = with(CROWDED, x -> Calls.feed(x, text));
            refused(fed, "a 7th law() \"" + text + "\"", RoadWater::law, -5, emptied);
            due("FAULT of what was not read", made(with(fed, RoadWater::law)).fault(), 9);
        }
        refused(CROWDED, "a 7th law() of 400 bytes", RoadWater::law, -5, emptied);
        int[] faults = {NONE, 4, 0, 3};
        for (int i = 1; i < texts.length; i++) {
            String text = texts[i];
            for (Start start : new Start[] {FRESH, ROOMY}) {
                Start fed = with(start, x -> Calls.feed(x, text));
                refused(fed, "law() \"" + text + "\"", RoadWater::law, -6, emptied);
                due("FAULT of \"" + text + "\"", made(with(fed, RoadWater::law)).fault(), faults[i]);
            }
        }
        Start blanks = with(FRESH, x -> Calls.feed(x, " ".repeat(400)));
        refused(blanks, "law() of 400 blanks", RoadWater::law, -6, emptied);
        due("FAULT at the end", made(with(blanks, RoadWater::law)).fault(), 400);
    }

    private static void p13() {
        quote("Promise 13: fault int fault(): FAULT of the latest law() that read a TEXT: its place; NONE without.");
        asked(FRESH, "fault() ahead of any", RoadWater::fault, NONE);
        asked(ROOMY, "fault()", RoadWater::fault, 7);
        asked(CROWDED, "fault()", RoadWater::fault, 9);
        asked(with(CROWDED, RoadWater::law), "fault() behind one that read none", RoadWater::fault, 9);
        asked(with(ROOMY, RoadWater::law), "fault() behind a LAW", RoadWater::fault, NONE);
        asked(with(FRESH, RoadWater::law), "fault() of an empty TEXT", RoadWater::fault, 0);
        asked(with(FRESH, x -> Calls.law(x, "x")), "fault() at the first place", RoadWater::fault, 0);
        Start longest = with(FRESH, x -> Calls.law(x, "warm 1" + " ".repeat(393) + "+"));
        asked(longest, "fault() at the last place", RoadWater::fault, 400);
    }

    private static void p14() {
        quote("Promise 14: force int force(int law): A LAW is in FORCE (NONE: none): which was. -2.");
        taken(FRESH, "force(NONE)", x -> x.force(NONE), NONE);
        taken(ROOMY, "force(NONE)", x -> x.force(NONE), 1);
        taken(ROOMY, "force(0)", x -> x.force(0), 1);
        taken(ROOMY, "force(1)", x -> x.force(1), 1);
        taken(ROOMY, "force(4)", x -> x.force(4), 1);
        taken(CROWDED, "force(5)", x -> x.force(5), 1);
        due("it is then", made(with(CROWDED, x -> x.force(5))).warm(0, 0, 0), 66);
        due("none is then", made(with(CROWDED, x -> x.force(NONE))).count(10), NONE);
        refused(FRESH, "force(0)", x -> x.force(0), -2);
        refused(ROOMY, "force(5)", x -> x.force(5), -2);
        for (int law : new int[] {-2, 6, LOW, HIGH}) {
            allRefused("force(" + law + ")", x -> x.force(law), -2);
        }
    }

    private static void p15() {
        quote("Promise 15: warm int warm(int place, int inch, int hour): WARMTH at a PLACE and an INCH in an HOUR. "
                + "NOTHING.");
        asked(FRESH, "warm(0, 0, 0)", x -> x.warm(0, 0, 0), 10);
        asked(ROOMY, "warm(63, 31, 23)", x -> x.warm(63, 31, 23), -1);
        asked(ROOMY, "warm(0, 0, 12)", x -> x.warm(0, 0, 12), 30);
        asked(ROOMY, "warm(0, 0, 11)", x -> x.warm(0, 0, 11), 10);
        int[][] bad = {{-1, 0, 0}, {64, 0, 0}, {0, -1, 0}, {0, 32, 0}, {0, 0, -1}, {0, 0, 24}, {LOW, 0, 0},
            {HIGH, 0, 0}, {0, LOW, 0}, {0, HIGH, 0}, {0, 0, LOW}, {0, 0, HIGH}};
        for (int[] b : bad) {
            allAsked("warm(" + b[0] + ", " + b[1] + ", " + b[2] + ")", x -> x.warm(b[0], b[1], b[2]), NOTHING);
        }
    }

    private interface OfThing {
        int on(RoadWater x, int thing);
    }

    /** A number that no THING has: this is answered, and it is not REFUSED. */
    private static void noThing(String name, OfThing call, int nothing) {
        for (int thing : new int[] {-1, 8, LOW, HIGH}) {
            allAsked(name + " of THING " + thing, x -> call.on(x, thing), nothing);
        }
        asked(FRESH, name + " of THING 0, there is none", x -> call.on(x, 0), nothing);
        asked(ROOMY, name + " of THING 7, there are 7", x -> call.on(x, 7), nothing);
        for (int thing : new int[] {0, 6}) {
            int last = thing;
            int answer = call.on(made(ROOMY), last);
            asked(ROOMY, name + " of THING " + last, x -> call.on(x, last), answer);
        }
    }

    /** The EYE two PLACES ahead of a THING that is 31 TALL, the light straight: 1650 and twice the ANGLE there. */
    private static void makeStraight(RoadWater x) {
        x.terms(2, 61);
        x.thing(63, 31);
    }

    private static final Start STRAIGHT = EdgeTests::makeStraight;

    private static Start law(Start start, String text) {
        return with(start, x -> {
            x.force(Calls.law(x, text));
        });
    }

    private static void p16() {
        quote("Promise 16: ray int ray(int angle, int what): Of the RAY of an ANGLE: where it ENDS (what 0: 0 GROUND, "
                + "1 a THING, 2 the SKY), at which PLACE (1), which THING (2; NONE), at which INCH of it (3; NONE), how "
                + "high in the end (4), how low at the lowest, with where it left and ENDS (5), how often it TURNS (6), "
                + "its SLOPE in the end (7). NOTHING.");
        int[][] rays = {{-500, 1, 63, 0, 6, 650, 650, 0, -500}, {0, 1, 63, 0, 16, 1650, 1650, 0, 0},
            {500, 1, 63, 0, 26, 2650, 1650, 0, 500}};
        for (int[] r : rays) {
            for (int what = 0; what < 8; what++) {
                int asking = what;
                asked(STRAIGHT, "ray(" + r[0] + ", " + what + ")", x -> x.ray(r[0], asking), r[1 + what]);
            }
        }
        int[] ground = {0, 62, NONE, NONE, -450, -450, 0, -500};
        int[] sky = {2, 63, NONE, NONE, 50, 50, 0, 0};
        for (int what = 0; what < 8; what++) {
            int asking = what;
            Start low = with(STRAIGHT, x -> x.terms(3, 0));
            asked(low, "ray(-500, " + what + ")", x -> x.ray(-500, asking), ground[what]);
            asked(with(low, x -> x.move(0, 0)), "ray(0, " + what + ")", x -> x.ray(0, asking), sky[what]);
        }
        int[][] bad = {{-501, 0}, {501, 0}, {0, -1}, {0, 8}, {LOW, 0}, {HIGH, 0}, {0, LOW}, {0, HIGH}};
        for (int[] b : bad) {
            allAsked("ray(" + b[0] + ", " + b[1] + ")", x -> x.ray(b[0], b[1]), NOTHING);
        }
        for (int angle : new int[] {-500, 0, 500}) {
            answered(ROOMY, "ray(" + angle + ", 0)", x -> x.ray(angle, 0), NOTHING);
            answered(CROWDED, "ray(" + angle + ", 7)", x -> x.ray(angle, 7), NOTHING);
        }
    }

    private static void p17() {
        quote("Promise 17: at int at(int angle, int place): How high the RAY of an ANGLE is at a PLACE. NOTHING (it "
                + "does not come there, too).");
        asked(FRESH, "at(0, 63)", x -> x.at(0, 63), 1650);
        asked(FRESH, "at(-500, 4)", x -> x.at(-500, 4), -350);
        asked(FRESH, "at(-500, 5): it ENDS ahead of that", x -> x.at(-500, 5), NOTHING);
        asked(FRESH, "at(500, 4)", x -> x.at(500, 4), 3650);
        asked(FRESH, "at(500, 5)", x -> x.at(500, 5), NOTHING);
        asked(STRAIGHT, "at(0, 61)", x -> x.at(0, 61), 1650);
        asked(STRAIGHT, "at(0, 60)", x -> x.at(0, 60), NOTHING);
        Start wall = with(STRAIGHT, x -> x.move(0, 62));
        asked(wall, "at(-1, 62): it ENDS there", x -> x.at(-1, 62), 1649);
        asked(wall, "at(-1, 63)", x -> x.at(-1, 63), NOTHING);
        int[][] bad = {{-501, 0}, {501, 0}, {0, -1}, {0, 64}, {LOW, 0}, {HIGH, 0}, {0, LOW}, {0, HIGH}};
        for (int[] b : bad) {
            allAsked("at(" + b[0] + ", " + b[1] + ")", x -> x.at(b[0], b[1]), NOTHING);
        }
    }

    private static void p18() {
        quote("Promise 18: seen int seen(int thing): By how many RAYS of the FIELD a THING is SEEN. NONE.");
        asked(STRAIGHT, "seen(0) by all", x -> x.seen(0), 201);
        asked(with(STRAIGHT, x -> x.move(0, 61)), "seen(0) by none", x -> x.seen(0), 0);
        noThing("seen", (x, thing) -> x.seen(thing), NONE);
    }

    private static void p19() {
        quote("Promise 19: pictures int pictures(int thing): How many PICTURES of a THING there are. NONE.");
        asked(STRAIGHT, "pictures(0)", x -> x.pictures(0), 1);
        asked(with(STRAIGHT, x -> x.move(0, 61)), "pictures(0), none", x -> x.pictures(0), 0);
        noThing("pictures", (x, thing) -> x.pictures(thing), NONE);
    }

    private static void p20() {
        quote("Promise 20: picture int picture(int thing, int i, int what): Of the i-th PICTURE the lowest ANGLE (what "
                + "0), the highest (1), whether it is UPRIGHT (2: 1, 2, 0), the least INCH that is SEEN (3), the "
                + "greatest (4). NOTHING.");
        int[] one = {-100, 100, 1, 14, 18};
        for (int what = 0; what < 5; what++) {
            int asking = what;
            asked(STRAIGHT, "picture(0, 0, " + what + ")", x -> x.picture(0, 0, asking), one[what]);
            asked(STRAIGHT, "picture(0, 1, " + what + ")", x -> x.picture(0, 1, asking), NOTHING);
            asked(STRAIGHT, "picture(0, -1, " + what + ")", x -> x.picture(0, -1, asking), NOTHING);
        }
        int[][] bad = {{0, 0, -1}, {0, 0, 5}, {0, 0, LOW}, {0, 0, HIGH}, {0, LOW, 0}, {0, HIGH, 0}};
        for (int[] b : bad) {
            asked(STRAIGHT, "picture(0, " + b[1] + ", " + b[2] + ")", x -> x.picture(b[0], b[1], b[2]), NOTHING);
            allAsked("picture(0, " + b[1] + ", " + b[2] + ")", x -> x.picture(b[0], b[1], b[2]), NOTHING);
        }
        noThing("picture(.., 0, 0)", (x, thing) -> x.picture(thing, 0, 0), NOTHING);
    }

    private static void p21() {
        quote("Promise 21: hidden int hidden(int thing): HIDDEN INCHES of a THING, as bits. NONE.");
        asked(STRAIGHT, "hidden(0)", x -> x.hidden(0), HIGH - (31 << 14));
        asked(with(STRAIGHT, x -> x.move(0, 61)), "hidden(0), all 31", x -> x.hidden(0), HIGH);
        asked(with(STRAIGHT, x -> x.rise(63, 16)), "hidden(0), 16 are there", x -> x.hidden(0), (1 << 16) - 1 - 7);
        noThing("hidden", (x, thing) -> x.hidden(thing), NONE);
    }

    private static void p22() {
        quote("Promise 22: water int water(int what): WATER: how many ANGLES (what 0), the highest (1), the lowest (2), "
                + "the first PLACE where the RAY of the highest is lowest (3). NOTHING (none, for 1, 2, 3).");
        int[] some = {26, -1, -26, 63};
        int[] none = {0, NOTHING, NOTHING, NOTHING};
        for (int what = 0; what < 4; what++) {
            int asking = what;
            asked(FRESH, "water(" + what + ")", x -> x.water(asking), some[what]);
            asked(STRAIGHT, "water(" + what + "), none", x -> x.water(asking), none[what]);
        }
        for (int what : new int[] {-1, 4, LOW, HIGH}) {
            allAsked("water(" + what + ")", x -> x.water(what), NOTHING);
            asked(STRAIGHT, "water(" + what + ")", x -> x.water(what), NOTHING);
        }
        // The highest is at 849 at PLACES 1 and 2.
        Start level = with(law(FRESH, "warm 11 if inch < 8"), x -> x.terms(3, 8));
        asked(level, "water(3), the first of two", x -> x.water(3), 1);
    }

    private static void p23() {
        quote("Promise 23: horizon int horizon(): The highest ANGLE of the FIELD by which the GROUND is seen; NOTHING "
                + "(none).");
        asked(FRESH, "horizon()", RoadWater::horizon, -27);
        asked(with(FRESH, x -> x.rise(1, 31)), "horizon() of all", RoadWater::horizon, 100);
        asked(with(FRESH, x -> x.terms(2, 63)), "horizon(), none", RoadWater::horizon, NOTHING);
        // Two PLACES on 1650 and twice the ANGLE: below 1500 by -76.
        asked(with(STRAIGHT, x -> x.rise(63, 15)), "horizon()", RoadWater::horizon, -76);
        asked(STRAIGHT, "horizon(): a THING is no GROUND", RoadWater::horizon, NOTHING);
    }

    private static void p24() {
        quote("Promise 24: aim int aim(int thing, int inch): The lowest ANGLE of the FIELD by which an INCH of a THING "
                + "is SEEN. NOTHING.");
        int[][] aims = {{13, NOTHING}, {14, -100}, {15, -75}, {16, -25}, {17, 25}, {18, 75}, {19, NOTHING},
            {0, NOTHING}, {30, NOTHING}, {31, NOTHING}, {-1, NOTHING}, {32, NOTHING}, {LOW, NOTHING}, {HIGH, NOTHING}};
        for (int[] a : aims) {
            asked(STRAIGHT, "aim(0, " + a[0] + ")", x -> x.aim(0, a[0]), a[1]);
        }
        for (int inch : new int[] {-1, 32}) {
            allAsked("aim(0, " + inch + ")", x -> x.aim(0, inch), NOTHING);
        }
        noThing("aim(.., 0)", (x, thing) -> x.aim(thing, 0), NOTHING);
        noThing("aim(.., -1)", (x, thing) -> x.aim(thing, -1), NOTHING);
    }

    private static void p25() {
        quote("Promise 25: loom int loom(int thing, int inch): That ANGLE less the lowest by which it would be with "
                + "BEND 0. NOTHING (by one of both it is not SEEN, too).");
        // 9 times 6 more at PLACE 62: 1704 and twice the ANGLE at PLACE 63.
        Start bent = with(law(STRAIGHT, "warm 99 - inch * 3"), x -> x.terms(1, 9));
        int[][] looms = {{13, NOTHING}, {14, NOTHING}, {15, -25}, {16, -27}, {17, -27}, {18, -27}, {19, NOTHING},
            {20, NOTHING}, {-1, NOTHING}, {32, NOTHING}, {LOW, NOTHING}, {HIGH, NOTHING}};
        for (int[] l : looms) {
            asked(bent, "loom(0, " + l[0] + ")", x -> x.loom(0, l[0]), l[1]);
        }
        asked(bent, "by BEND it is SEEN", x -> x.aim(0, 19), 98);
        asked(with(bent, x -> x.terms(1, 0)), "without it is SEEN", x -> x.aim(0, 14), -100);
        asked(with(bent, x -> x.terms(1, 0)), "loom(0, 14) with BEND 0", x -> x.loom(0, 14), 0);
        // The HEIGHT the same as BEND, or as 0: 950, 54 more and twice the ANGLE; 50, 27 more at INCH 0.
        asked(with(bent, x -> x.terms(3, 9)), "loom(0, 9) from 9", x -> x.loom(0, 9), -27);
        asked(with(bent, x -> x.terms(3, 0)), "loom(0, 0) from 0", x -> x.loom(0, 0), -13);
        noThing("loom(.., 0)", (x, thing) -> x.loom(thing, 0), NOTHING);
        noThing("loom(.., -1)", (x, thing) -> x.loom(thing, -1), NOTHING);
    }

    private static void p26() {
        quote("Promise 26: shade int shade(int place): The lowest height, not below the GROUND, at which a RAY of the "
                + "FIELD comes to a PLACE. NOTHING (none does).");
        int[][] shades = {{1, 1550}, {16, 50}, {17, 1}, {25, 0}, {63, 12}};
        for (int[] s : shades) {
            asked(FRESH, "shade(" + s[0] + ")", x -> x.shade(s[0]), s[1]);
        }
        asked(with(FRESH, x -> x.rise(10, 7)), "shade(10), just on the GROUND", x -> x.shade(10), 700);
        asked(with(FRESH, x -> x.rise(20, 7)), "shade(20), above the GROUND", x -> x.shade(20), 710);
        asked(with(FRESH, x -> x.rise(1, 17)), "shade(1), just on the GROUND", x -> x.shade(1), 1700);
        asked(with(FRESH, x -> x.rise(1, 18)), "shade(1), all below the GROUND", x -> x.shade(1), NOTHING);
        asked(with(FRESH, x -> x.rise(1, 18)), "shade(2), none comes there", x -> x.shade(2), NOTHING);
        asked(STRAIGHT, "shade(60), ahead of the EYE", x -> x.shade(60), NOTHING);
        asked(STRAIGHT, "shade(62)", x -> x.shade(62), 1550);
        for (int place : new int[] {-1, 64, LOW, HIGH}) {
            allAsked("shade(" + place + ")", x -> x.shade(place), NOTHING);
        }
        answered(ROOMY, "shade(2)", x -> x.shade(2), NOTHING);
    }

    private static void p27() {
        quote("Promise 27: cross int cross(int one, int other): The first PLACE at which the RAY of a greater ANGLE is "
                + "not higher than that of a lesser one, two or more PLACES behind the EYE (both come there). NONE "
                + "(never, the same ANGLE, too).");
        asked(FRESH, "cross(-500, 500), never", x -> x.cross(-500, 500), NONE);
        // 850 and 60 is above INCH 8, by 40 it is lifted by 10 for each BEND: 970 and 930 at PLACE 2.
        Start lifted = with(law(FRESH, "warm 20 if inch < 8"), x -> x.terms(3, 8));
        int[][] bends = {{2, NONE}, {3, 3}, {4, 2}, {5, 2}};
        for (int[] b : bends) {
            Start bent = with(lifted, x -> x.terms(1, b[0]));
            asked(bent, "cross(60, 40), BEND " + b[0], x -> x.cross(60, 40), b[1]);
            asked(bent, "cross(40, 60), BEND " + b[0], x -> x.cross(40, 60), b[1]);
        }
        Start crossing = with(lifted, x -> x.terms(1, 4));
        asked(crossing, "the same ANGLE", x -> x.cross(40, 40), NONE);
        asked(with(crossing, x -> x.terms(2, 61)), "just two PLACES behind", x -> x.cross(40, 60), 63);
        asked(with(crossing, x -> x.terms(2, 62)), "one PLACE behind", x -> x.cross(40, 60), NONE);
        asked(with(crossing, x -> x.thing(2, 31)), "both come there", x -> x.cross(40, 60), 2);
        // The lesser one ENDS in the THING at PLACE 1 (890), the other one goes past it.
        asked(with(crossing, x -> x.thing(1, 9)), "one does not", x -> x.cross(40, 60), NONE);
        Start before = with(crossing, x -> x.cross(40, 60));
        asked(with(before, x -> x.thing(1, 9)), "one does not any more", x -> x.cross(40, 60), NONE);
        int[][] bad = {{-501, 0}, {501, 0}, {0, -501}, {0, 501}, {LOW, 0}, {0, HIGH}, {501, 501}, {-501, -501}};
        for (int[] b : bad) {
            allAsked("cross(" + b[0] + ", " + b[1] + ")", x -> x.cross(b[0], b[1]), NONE);
        }
    }

    private static void p28() {
        quote("Promise 28: hours int hours(int thing): HOURS in which a THING is SEEN by the FIELD, as bits. NONE.");
        asked(STRAIGHT, "hours(0), all", x -> x.hours(0), Calls.ALL_HOURS);
        asked(with(STRAIGHT, x -> x.move(0, 61)), "hours(0), none", x -> x.hours(0), 0);
        asked(some(20), "hours(0), three", x -> x.hours(0), 1 | 1 << 11 | 1 << 23);
        asked(law(some(20), "warm 10"), "hours(0), all", x -> x.hours(0), Calls.ALL_HOURS);
        noThing("hours", (x, thing) -> x.hours(thing), NONE);
    }

    /**
     * Two PLACES on from the EYE a THING so TALL; but in HOURS 0, 11, 23 each RAY of the FIELD comes 666 higher there,
     * to 2116 and more, than the 1450 to 1850 of straight light.
     */
    private static Start some(int tall) {
        Start lift = law(with(FRESH, x -> x.thing(63, tall)),
                "warm 99 - [inch - 14] * 37 if not (hour = 0 or hour = 11 or hour = 23)");
        return with(lift, x -> {
            x.terms(1, 9);
            x.terms(2, 61);
        });
    }

    /** Two PLACES on from the EYE a THING of 20; straight light, but 1341 higher by ANGLES -50 .. 49 (HEIGHT 16). */
    private static Start parted() {
        Start lift = law(with(FRESH, x -> x.thing(63, 20)), "warm 99 if inch = 15; warm 0 - 50 if inch = 17");
        return with(lift, x -> {
            x.terms(1, 9);
            x.terms(2, 61);
        });
    }

    private static void p29() {
        quote("Promise 29: mark int mark(int tall, int what): Of PLACES behind the EYE where no THING is that at which "
                + "one so TALL, all others away, would be SEEN by the FIELD in the most HOURS, the lowest (what 0), in "
                + "how many (1). NONE (there is no such PLACE, too).");
        int[][] flat = {{1, 16, 24}, {5, 12, 24}, {31, 1, 24}};
        for (int[] f : flat) {
            asked(FRESH, "mark(" + f[0] + ", 0)", x -> x.mark(f[0], 0), f[1]);
            asked(FRESH, "mark(" + f[0] + ", 1)", x -> x.mark(f[0], 1), f[2]);
        }
        Start[] starts = {some(20), with(some(20), x -> x.move(0, 0)), with(some(20), x -> x.move(0, 62)),
            with(some(20), x -> x.thing(62, 31)), with(STRAIGHT, x -> x.terms(2, 63)),
            with(FRESH, x -> x.rise(1, 31))};
        int[][] marks = {{62, 24}, {62, 24}, {63, 3}, {NONE, NONE}, {NONE, NONE}, {1, 0}};
        for (int i = 0; i < starts.length; i++) {
            asked(starts[i], "mark(20, 0), " + i, x -> x.mark(20, 0), marks[i][0]);
            asked(starts[i], "mark(20, 1), " + i, x -> x.mark(20, 1), marks[i][1]);
        }
        int[][] bad = {{0, 0}, {32, 0}, {0, 1}, {32, 1}, {-1, 0}, {5, -1}, {5, 2}, {LOW, 0}, {HIGH, 0}, {5, LOW},
            {5, HIGH}};
        for (int[] b : bad) {
            allAsked("mark(" + b[0] + ", " + b[1] + ")", x -> x.mark(b[0], b[1]), NONE);
        }
    }

    private static void p30() {
        quote("Promise 30: level int level(int place): ERROR of a LEVEL at a PLACE in the HOUR. NOTHING (it is not "
                + "behind the EYE, the RAY does not come there, too).");
        int[][] errors = {{60, NOTHING}, {61, NOTHING}, {62, 0}, {63, 666}};
        for (int[] e : errors) {
            asked(some(20), "level(" + e[0] + ")", x -> x.level(e[0]), e[1]);
        }
        asked(with(some(20), x -> x.terms(0, 11)), "level(63) in HOUR 11", x -> x.level(63), 0);
        Start wall = with(some(20), x -> x.move(0, 62));
        asked(wall, "level(62), where it ENDS", x -> x.level(62), 0);
        asked(wall, "level(63), it does not come there", x -> x.level(63), NOTHING);
        for (int place : new int[] {-1, 64, LOW, HIGH}) {
            allAsked("level(" + place + ")", x -> x.level(place), NOTHING);
        }
        asked(FRESH, "level(0)", x -> x.level(0), NOTHING);
        asked(FRESH, "level(1)", x -> x.level(1), 0);
    }

    private static void p31() {
        quote("Promise 31: best int best(int place): The HOUR in which the ERROR at a PLACE is nearest to 0 (the "
                + "lowest). NONE (in none the RAY comes there, too).");
        int[][] hours = {{60, NONE}, {61, NONE}, {62, 0}, {63, 0}};
        for (int[] h : hours) {
            asked(some(20), "best(" + h[0] + ")", x -> x.best(h[0]), h[1]);
        }
        Start last = law(some(20), "warm 99 - [inch - 14] * 37 if hour < 23");
        asked(last, "best(63), the last one", x -> x.best(63), 23);
        // 72 less in HOUR 5, 72 more in 9, 90 in all others.
        Start either = law(some(20), "warm inch * 5; warm inch * 4 if hour = 5; warm 99 - inch * 4 if hour = 9");
        asked(either, "best(63), the lowest of two as near", x -> x.best(63), 5);
        Start wall = with(some(20), x -> x.move(0, 62));
        asked(wall, "best(63), in none it comes there", x -> x.best(63), NONE);
        for (int place : new int[] {-1, 64, LOW, HIGH}) {
            allAsked("best(" + place + ")", x -> x.best(place), NONE);
        }
    }

    private static void p32() {
        quote("Promise 32: eyes int eyes(int thing, int what): From how many HEIGHTS 0 .. 31 of the EYE a THING is SEEN "
                + "by the FIELD (what 0), wholly (1: nothing HIDDEN), by two PICTURES or more (2). NONE.");
        // 100 times the HEIGHT, 50 and from -200 to 200: 0 .. 399 by HEIGHTS 0 .. 5, all of it by 1 and 2.
        Start four = with(FRESH, x -> {
            x.terms(2, 61);
            x.thing(63, 4);
        });
        int[] heights = {6, 2, 0};
        int[] parted = {22, 0, 1};
        for (int what = 0; what < 3; what++) {
            int asking = what;
            asked(four, "eyes(0, " + what + ")", x -> x.eyes(0, asking), heights[what]);
            asked(parted(), "eyes(0, " + what + "), two PICTURES by 16", x -> x.eyes(0, asking), parted[what]);
        }
        asked(STRAIGHT, "eyes(0, 0), all", x -> x.eyes(0, 0), 32);
        asked(with(STRAIGHT, x -> x.move(0, 61)), "eyes(0, 0), none", x -> x.eyes(0, 0), 0);
        asked(with(STRAIGHT, x -> x.move(0, 61)), "eyes(0, 1), none", x -> x.eyes(0, 1), 0);
        for (int what : new int[] {-1, 3, LOW, HIGH}) {
            allAsked("eyes(0, " + what + ")", x -> x.eyes(0, what), NONE);
        }
        noThing("eyes(.., 0)", (x, thing) -> x.eyes(thing, 0), NONE);
    }

    private static void p33() {
        quote("Promise 33: where int where(int tall, int pictures): The lowest PLACE behind the EYE at which a THING so "
                + "TALL (none is there, no other THING counts) would have so many PICTURES (0 .. 9) just. NONE.");
        int[][] flat = {{10, 0, 1}, {10, 1, 7}, {10, 2, NONE}, {10, 9, NONE}, {1, 1, 16}, {31, 1, 1}};
        for (int[] f : flat) {
            asked(FRESH, "where(" + f[0] + ", " + f[1] + ")", x -> x.where(f[0], f[1]), f[2]);
        }
        Start free = with(parted(), x -> x.move(0, 0));
        int[][] two = {{0, NONE}, {1, 62}, {2, 63}, {3, NONE}};
        for (int[] t : two) {
            asked(free, "where(20, " + t[0] + ")", x -> x.where(20, t[0]), t[1]);
        }
        asked(with(parted(), x -> x.move(0, 62)), "no other THING counts", x -> x.where(20, 2), 63);
        asked(parted(), "one is there", x -> x.where(20, 2), NONE);
        asked(with(free, x -> x.terms(2, 63)), "no PLACE behind the EYE", x -> x.where(20, 0), NONE);
        int[][] bad = {{0, 0}, {32, 0}, {-1, 0}, {5, -1}, {5, 10}, {LOW, 0}, {HIGH, 0}, {5, LOW}, {5, HIGH}};
        for (int[] b : bad) {
            allAsked("where(" + b[0] + ", " + b[1] + ")", x -> x.where(b[0], b[1]), NONE);
        }
    }

    private static void p34() {
        quote("Promise 34: sight int sight(int angle, int thing, int inch): A SIGHT: how many there are. -1 (ANGLE, "
                + "INCH NONE .. 31); -2; -5.");
        int[][] good = {{-500, 0, NONE}, {500, 6, 31}, {0, 0, 0}, {-500, 6, 31}, {500, 0, NONE}};
        for (int[] g : good) {
            taken(ROOMY, "sight(" + g[0] + ", " + g[1] + ", " + g[2] + ")", x -> x.sight(g[0], g[1], g[2]), 12);
            taken(STRAIGHT, "sight(" + g[0] + ", 0, " + g[2] + ")", x -> x.sight(g[0], 0, g[2]), 1);
        }
        int[][] bad = {{-501, 0, 0}, {501, 0, 0}, {0, 0, -2}, {0, 0, 32}, {LOW, 0, 0}, {HIGH, 0, 0}, {0, 0, LOW},
            {0, 0, HIGH}, {501, 9, 0}, {0, -1, 32}};
        for (int[] b : bad) {
            allRefused("sight(" + b[0] + ", " + b[1] + ", " + b[2] + ")", x -> x.sight(b[0], b[1], b[2]), -1);
        }
        for (int thing : new int[] {-1, 8, LOW, HIGH}) {
            allRefused("sight(0, " + thing + ", 0)", x -> x.sight(0, thing, 0), -2);
        }
        refused(FRESH, "sight(0, 0, 0)", x -> x.sight(0, 0, 0), -2);
        refused(ROOMY, "sight(0, 7, NONE)", x -> x.sight(0, 7, NONE), -2);
        refused(CROWDED, "sight(0, 0, 0)", x -> x.sight(0, 0, 0), -5);
        refused(CROWDED, "sight(500, 7, NONE)", x -> x.sight(500, 7, NONE), -5);
    }

    private static void p35() {
        quote("Promise 35: drop int drop(int sight): A SIGHT goes, those behind it move up: how many are left. -2.");
        taken(ROOMY, "drop(0)", x -> x.drop(0), 10);
        taken(ROOMY, "drop(10)", x -> x.drop(10), 10);
        taken(CROWDED, "drop(11)", x -> x.drop(11), 11);
        refused(FRESH, "drop(0)", x -> x.drop(0), -2);
        refused(ROOMY, "drop(11)", x -> x.drop(11), -2);
        for (int sight : new int[] {-1, 12, LOW, HIGH}) {
            allRefused("drop(" + sight + ")", x -> x.drop(sight), -2);
        }
        // The second one alone is not so; behind it a third one.
        Start three = with(STRAIGHT, x -> {
            x.sight(0, 0, 16);
            x.sight(0, 0, 15);
            x.sight(100, 0, 18);
        });
        int[] left = {1, 0, 1};
        for (int i = 0; i < 3; i++) {
            int sight = i;
            asked(with(three, x -> x.drop(sight)), "wrong(0) without " + i, x -> x.wrong(0), left[i]);
        }
        taken(with(three, x -> x.drop(1)), "drop(1), the third one by now", x -> x.drop(1), 1);
        taken(with(with(three, x -> x.drop(0)), x -> x.drop(0)), "drop(0), the last one", x -> x.drop(0), 0);
        refused(with(three, x -> x.drop(1)), "drop(2), the third one moved up", x -> x.drop(2), -2);
    }

    private static void p36() {
        quote("Promise 36: wrong int wrong(int hour): How many SIGHTS would not be so in an HOUR. NONE.");
        asked(FRESH, "wrong(0)", x -> x.wrong(0), 0);
        asked(FRESH, "wrong(23)", x -> x.wrong(23), 0);
        Start start = with(some(20), x -> {
            x.sight(0, 0, 16);
            x.sight(-100, 0, 14);
            x.sight(0, 0, NONE);
        });
        int[][] wrong = {{0, 1}, {1, 2}, {10, 2}, {11, 1}, {12, 2}, {22, 2}, {23, 1}};
        for (int[] w : wrong) {
            asked(start, "wrong(" + w[0] + ")", x -> x.wrong(w[0]), w[1]);
        }
        for (int hour : new int[] {-1, 24, LOW, HIGH}) {
            allAsked("wrong(" + hour + ")", x -> x.wrong(hour), NONE);
        }
        answered(CROWDED, "wrong(23)", x -> x.wrong(23), NONE);
    }

    private static void p37() {
        quote("Promise 37: fits int fits(): HOURS that FIT, as bits.");
        allFit(FRESH, Calls.ALL_HOURS);
        int three = 1 | 1 << 11 | 1 << 23;
        allFit(with(some(20), x -> x.sight(0, 0, 16)), three);
        allFit(with(some(20), x -> x.sight(0, 0, NONE)), Calls.ALL_HOURS - three);
        allFit(with(some(20), x -> x.sight(0, 0, 15)), 0);
    }

    private static void allFit(Start start, int hours) {
        asked(start, "fits()", RoadWater::fits, hours);
    }

    private static void p38() {
        quote("Promise 38: likely int likely(): The HOUR in which the fewest SIGHTS would not be so; the lowest.");
        asked(FRESH, "likely() of no SIGHTS", RoadWater::likely, 0);
        asked(with(some(20), x -> x.sight(0, 0, 16)), "likely() of 0, 11, 23", RoadWater::likely, 0);
        asked(with(some(20), x -> x.sight(0, 0, NONE)), "likely() of all others", RoadWater::likely, 1);
        Start last = law(some(20), "warm 99 - [inch - 14] * 37 if hour < 23");
        asked(with(last, x -> x.sight(0, 0, 16)), "likely() of 23 alone", RoadWater::likely, 23);
        Start never = with(some(20), x -> {
            x.sight(0, 0, 15);
            x.sight(0, 0, NONE);
        });
        asked(never, "likely(), none FITS", RoadWater::likely, 1);
    }

    private static void p39() {
        quote("Promise 39: tremble int tremble(int seed, int angle, int trembling, int many): A RAY of an ANGLE "
                + "TREMBLES so many times (1 .. 40), each goes on by the SEED where the one ahead left it, kept as the "
                + "latest: how many END in the same (GROUND, THING, which, SKY) as it would without. -1.");
        // By -500 and 500 it ENDS within some steps, whatever the DRAWS are.
        int[][] good = {{0, -500, 0, 1}, {1000000, 500, 50, 40}, {0, 500, 50, 1}, {1000000, -500, 0, 40}, {7, 0, 0, 9}};
        for (int[] g : good) {
            String name = "tremble(" + g[0] + ", " + g[1] + ", " + g[2] + ", " + g[3] + ")";
            taken(FRESH, name, x -> x.tremble(g[0], g[1], g[2], g[3]), g[3]);
            Start trembled = with(CROWDED, x -> x.tremble(g[0], g[1], g[2], g[3]));
            answered(trembled, "the last one of " + name, x -> x.trembled(g[3] - 1, 0), NONE);
            asked(trembled, "one more than " + name, x -> x.trembled(g[3], 0), NONE);
        }
        int[][] bad = {{-1, 0, 0, 1}, {1000001, 0, 0, 1}, {0, -501, 0, 1}, {0, 501, 0, 1}, {0, 0, -1, 1},
            {0, 0, 51, 1}, {0, 0, 0, 0}, {0, 0, 0, 41}, {LOW, 0, 0, 1}, {HIGH, 0, 0, 1}, {0, LOW, 0, 1},
            {0, HIGH, 0, 1}, {0, 0, LOW, 1}, {0, 0, HIGH, 1}, {0, 0, 0, LOW}, {0, 0, 0, HIGH}};
        for (int[] b : bad) {
            String name = "tremble(" + b[0] + ", " + b[1] + ", " + b[2] + ", " + b[3] + ")";
            allRefused(name, x -> x.tremble(b[0], b[1], b[2], b[3]), -1);
        }
        goesOn();
    }

    private static void goesOn() {
        // One step to a RISE of 16 at 63, on which 1600 and more goes past: 1650, -25 and the DRAWS one by one.
        Start step = with(FRESH, x -> {
            x.terms(2, 62);
            x.rise(63, 16);
        });
        RoadWater x = made(step);
        long s = 77;
        int past = 0;
        int[] ends = new int[40];
        for (int i = 0; i < 40; i++) {
            s = (s * 1103 + 12345) % 1000003;
            ends[i] = s % 101 - 50 - 25 >= -50 ? 2 : 0;
            past += ends[i] / 2;
        }
        due("tremble(77, -25, 50, 40)", x.tremble(77, -25, 50, 40), past);
        for (int i = 0; i < 40; i++) {
            due("trembled(" + i + ", 0)", x.trembled(i, 0), ends[i]);
        }
        // 1575 and the DRAW: below 1600 it ENDS in the THING at 62, as it would without, else in that at 63.
        RoadWater y = made(STRAIGHT);
        y.terms(3, 15);
        y.thing(62, 16);
        int same = y.tremble(77, 25, 50, 40);
        int near = 0;
        for (int i = 0; i < 40; i++) {
            due("in a THING", y.trembled(i, 0), 1);
            near += y.trembled(i, 1) == 62 ? 1 : 0;
        }
        due("in the same one", same, near);
        due("some are not", near > 0 && near < 40 ? 1 : 0, 1);
    }

    private static void p40() {
        quote("Promise 40: trembled int trembled(int i, int what): Of the i-th RAY of the latest TREMBLING where it "
                + "ENDS (what 0; 0 .. 2), at which PLACE (1). NONE.");
        asked(FRESH, "trembled(0, 0) ahead of any", x -> x.trembled(0, 0), NONE);
        int[][] within = {{0, 0}, {0, 1}, {3, 0}, {3, 1}};
        for (int[] w : within) {
            answered(ROOMY, "trembled(" + w[0] + ", " + w[1] + ")", x -> x.trembled(w[0], w[1]), NONE);
        }
        answered(CROWDED, "trembled(39, 0)", x -> x.trembled(39, 0), NONE);
        answered(CROWDED, "trembled(39, 1)", x -> x.trembled(39, 1), NONE);
        asked(ROOMY, "trembled(4, 0)", x -> x.trembled(4, 0), NONE);
        Start fewer = with(CROWDED, x -> x.tremble(0, 0, 0, 1));
        asked(fewer, "trembled(1, 0) of the latest", x -> x.trembled(1, 0), NONE);
        int[][] bad = {{-1, 0}, {40, 0}, {0, -1}, {0, 2}, {LOW, 0}, {HIGH, 0}, {0, LOW}, {0, HIGH}};
        for (int[] b : bad) {
            allAsked("trembled(" + b[0] + ", " + b[1] + ")", x -> x.trembled(b[0], b[1]), NONE);
        }
        Start[] starts = {with(STRAIGHT, x -> x.terms(3, 0)), STRAIGHT, with(STRAIGHT, x -> x.move(0, 0))};
        int[][] ends = {{0, 62}, {1, 63}, {2, 63}};
        for (int i = 0; i < 3; i++) {
            Start trembled = with(starts[i], x -> x.tremble(0, -500, 0, 1));
            asked(trembled, "where it ENDS", x -> x.trembled(0, 0), ends[i][0]);
            asked(trembled, "at which PLACE", x -> x.trembled(0, 1), ends[i][1]);
        }
    }

    private static void p41() {
        quote("Promise 41: image int image(int k): IMAGE k is kept: 0; -1.");
        for (Start start : STARTS) {
            taken(start, "image(0)", x -> x.image(0), 0);
            taken(start, "image(1)", x -> x.image(1), 0);
        }
        for (int k : new int[] {-1, 2, LOW, HIGH}) {
            allRefused("image(" + k + ")", x -> x.image(k), -1);
        }
        for (int k = 0; k < 2; k++) {
            int image = k;
            Start kept = x -> {
                x.image(1 - image);
                fill(x, 0);
                x.image(image);
            };
            Start back = with(kept, x -> {
                due("back(" + (1 - image) + ")", x.back(1 - image), 0);
                fill(x, 1);
                due("back(" + image + ")", x.back(image), 0);
            });
            same("image(" + k + ") and back(" + k + ")", told(kept), told(back));
        }
        keptAlone();
    }

    private static void keptAlone() {
        RoadWater x = made(STRAIGHT);
        x.thing(0, 1);
        for (int i = 0; i < 12; i++) {
            x.sight(0, 0, 16);
        }
        x.image(0);
        for (int i = 0; i < 12; i++) {
            x.drop(0);
        }
        for (int i = 0; i < 12; i++) {
            x.sight(100, 1, 18);
        }
        due("wrong(0) of others", x.wrong(0), 12);
        due("back(0)", x.back(0), 0);
        due("wrong(0) of those kept", x.wrong(0), 0);
        due("count(2)", x.count(2), 12);
        RoadWater y = new RoadWater();
        y.image(0);
        y.thing(0, 1);
        y.thing(63, 1);
        due("back(0)", y.back(0), 0);
        due("no THING is at 63", y.thing(63, 2), 0);
        due("no THING is at 0", y.thing(0, 2), 1);
    }

    /** All that an IMAGE keeps, as much as there may be: another one for 0 than for 1. */
    private static void fill(RoadWater x, int n) {
        byte[] rises = new byte[64];
        for (int place = 0; place < 64; place++) {
            rises[place] = (byte) (place / 8 + n);
        }
        Calls.feed(x, rises);
        x.row();
        x.ground(0, 62, 3 + n);
        x.ground(63, 63, 5 + n);
        for (int i = 0; i < 8; i++) {
            x.thing(63 - 2 * i - n, 10 + i + n);
        }
        for (int i = 0; i < 6; i++) {
            Calls.law(x, "warm ground * 10 + " + (i + 6 * n));
        }
        x.force(5 - n);
        for (int what = 0; what < 4; what++) {
            x.terms(what, 7 + n);
        }
        for (int i = 0; i < 12; i++) {
            x.sight(n == 0 ? -30 + i : 20 + i, i % 7 + n, i % 2 == n ? NONE : i);
        }
    }

    private static void p42() {
        quote("Promise 42: back int back(int k): BACK to IMAGE k: 0. -1; -2 it was not kept.");
        taken(ROOMY, "back(0)", x -> x.back(0), 0);
        taken(CROWDED, "back(0)", x -> x.back(0), 0);
        taken(CROWDED, "back(1)", x -> x.back(1), 0);
        taken(with(CROWDED, x -> x.back(1)), "back(1) again", x -> x.back(1), 0);
        refused(FRESH, "back(0)", x -> x.back(0), -2);
        refused(FRESH, "back(1)", x -> x.back(1), -2);
        refused(ROOMY, "back(1)", x -> x.back(1), -2);
        refused(with(FRESH, x -> x.image(1)), "back(0)", x -> x.back(0), -2);
        for (int k : new int[] {-1, 2, LOW, HIGH}) {
            allRefused("back(" + k + ")", x -> x.back(k), -1);
        }
    }

    private static void p43() {
        quote("Promise 43: count int count(int what): 0 THINGS, 1 LAWS, 2 SIGHTS, 3 PLACES with a RISE, 4 bytes of the "
                + "TAPE, 5 .. 9 how many calls were REFUSED by -1, -2, -3, -5, -6 (IMAGES do not keep that), 10 the LAW "
                + "in FORCE, 11 .. 14 TERMS 0 .. 3. NONE for others.");
        int[] roomy = {7, 5, 11, 4, 380, 0, 0, 0, 0, 1, 1, 14, 2, 1, 9};
        int[] crowded = {8, 6, 12, 5, 400, 0, 0, 1, 0, 2, 1, 14, 2, 1, 9};
        for (int what = 0; what < 15; what++) {
            int asking = what;
            asked(ROOMY, "count(" + what + ")", x -> x.count(asking), roomy[what]);
            asked(CROWDED, "count(" + what + ")", x -> x.count(asking), crowded[what]);
        }
        for (int what : new int[] {-1, 15, LOW, HIGH}) {
            allAsked("count(" + what + ")", x -> x.count(what), NONE);
        }
        RoadWater x = new RoadWater();
        x.image(0);
        x.rise(64, 0);
        x.back(1);
        x.back(0);
        due("count(5) is not kept", x.count(5), 1);
        due("count(6) is not kept", x.count(6), 1);
        for (int place = 0; place < 64; place++) {
            x.rise(place, 1);
            due("count(3)", x.count(3), place + 1);
        }
        x.rise(5, 0);
        due("count(3)", x.count(3), 63);
    }

    private static void p44() {
        quote("Promise 44: status int status(): What the latest call of rise, ground, thing, move, terms, row, law, "
                + "force, sight, drop, tremble, image, back was REFUSED by; 0 if it was not, or ahead of any.");
        asked(FRESH, "status() ahead of any", RoadWater::status, 0);
        asked(ROOMY, "status()", RoadWater::status, 0);
        asked(CROWDED, "status()", RoadWater::status, -3);
        Call[] calls = {x -> x.rise(64, 0), x -> x.ground(1, 0, 0), x -> x.thing(8, 1), x -> x.move(0, 16),
            x -> x.terms(4, 0), x -> x.row() + x.row(), RoadWater::law, x -> x.force(6), x -> x.sight(0, 9, 0),
            x -> x.drop(12), x -> x.tremble(0, 0, 0, 0), x -> x.image(2), x -> x.back(3)};
        int[] by = {-1, -1, -3, -3, -1, -6, -5, -2, -2, -2, -1, -1, -1};
        Call[] others = {x -> x.rise(0, 0), x -> x.ground(0, 1, 0), x -> x.move(0, 8), x -> x.terms(0, 0),
            x -> x.force(NONE), x -> x.drop(0), x -> x.tremble(0, 0, 0, 1), x -> x.image(0), x -> x.back(1)};
        for (int i = 0; i < calls.length; i++) {
            RoadWater x = made(CROWDED);
            calls[i].on(x);
            due("status() behind a REFUSED call, " + i, x.status(), by[i]);
            x.feed(0, 0, 0, 0, 0);
            x.end(-1);
            x.seen(-1);
            due("status() behind calls that are not among these, " + i, x.status(), by[i]);
            others[i % others.length].on(x);
            due("status() behind one that was not", x.status(), 0);
        }
    }

    private static void constants() {
        Calls.about("NONE = -1: There is none. NOTHING = -1000000: What is not there, where it could be below 0.");
        due("NONE", RoadWater.NONE, -1);
        due("NOTHING", RoadWater.NOTHING, -1000000);
    }

    private static void calls() {
        Calls.about("An object is used for at most 512 calls after it has been made");
        RoadWater x = new RoadWater();
        for (int i = 1; i < 512; i++) {
            due("call " + i, x.rise(i % 64, i % 32), i < 64 ? 0 : (i - 64) % 32);
        }
        due("call 512", x.rise(0, 9), 448 % 32);
        RoadWater y = new RoadWater();
        for (int i = 1; i < 512; i++) {
            due("call " + i, y.rise(64, 0), -1);
        }
        due("call 512", y.count(5), 511);
    }
}
