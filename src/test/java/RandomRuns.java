import java.util.ArrayList;
import java.util.Arrays;
import java.util.List;
import java.util.Random;

/**
 * Random runs of calls, each answer held against a second program that is
 * written as plainly as the document's words allow: no field kept, no ray
 * shared between places, texts read anew each time they are asked.
 */
public final class RandomRuns {
    private static final int RUNS = 160;
    private static final int CALLS = 400;

    private static int wrong = 0;

    public static void main(String[] args) {
        int runs = args.length > 1 ? Integer.parseInt(args[1]) : RUNS;
        int first = args.length > 2 ? Integer.parseInt(args[2]) : 0;
        mirages();
        for (int run = first; run < first + runs && wrong < 20; run++) {
            new Run(run).go();
        }
        System.out.println(wrong == 0 ? "random runs: all answers agree" : wrong + " answers differ");
        if (wrong != 0) {
            System.exit(1);
        }
    }

    /** The cases of PromiseTests whose answers were read off the class and not worked out by hand. */
    private static void mirages() {
        for (int[] c : new int[][] {{10, 50, 12}, {4, 43, 9}, {4, 49, 9}}) {
            Run run = new Run(1);
            run.feedBytes("warm 12 - above * 3 if above < 7".getBytes(java.nio.charset.StandardCharsets.ISO_8859_1));
            run.due("end(32)", run.x.end(32), run.y.end(32));
            run.due("law()", run.x.law(), run.y.law());
            run.due("force(0)", run.x.force(0), run.y.force(0));
            run.due("terms", run.x.terms(3, c[0]), run.y.terms(3, c[0]));
            run.due("where 2", run.x.where(12, 2), run.y.where(12, 2));
            run.due("where 9", run.x.where(9, 9), run.y.where(9, 9));
            run.due("thing", run.x.thing(c[1], c[2]), run.y.thing(c[1], c[2]));
            run.due("pictures", run.x.pictures(0), run.y.pictures(0));
            for (int i = 0; i < 20; i++) {
                run.due("picture", run.x.picture(0, i / 5, i % 5), run.y.picture(0, i / 5, i % 5));
            }
            run.due("eyes", run.x.eyes(0, 2), run.y.eyes(0, 2));
            for (int height = 0; height < 32; height++) {
                run.due("terms", run.x.terms(3, height), run.y.terms(3, height));
                run.due("pictures", run.x.pictures(0), run.y.pictures(0));
            }
        }
    }

    private static final class Run {
        private final int number;
        private final Random dice;
        private final RoadWater x = new RoadWater();
        private final Plain y = new Plain();
        private final boolean costly;
        private final boolean calm;
        private final List<String> calls = new ArrayList<>();
        private boolean stopped;

        Run(int number) {
            this.number = number;
            dice = new Random(number * 7919L + 17);
            costly = number % 8 == 0;
            calm = number % 2 == 0;
        }

        // A calm run has a road that rays get over, and air that bends them
        // otherwise from hour to hour.
        private void prepare() {
            int eye = 2 + dice.nextInt(12);
            due("terms(3, " + eye + ")", x.terms(3, eye), y.terms(3, eye));
            for (int i = 0; i < 2; i++) {
                feedBytes(mirage().getBytes(java.nio.charset.StandardCharsets.ISO_8859_1));
                due("law()", x.law(), y.law());
            }
            due("force(1)", x.force(1), y.force(1));
            for (int i = 0; i < 2; i++) {
                int place = 15 + dice.nextInt(48);
                int tall = 1 + dice.nextInt(20);
                due("thing(" + place + ", " + tall + ")", x.thing(place, tall), y.thing(place, tall));
            }
        }

        private String mirage() {
            return "warm " + (20 + dice.nextInt(60)) + " - above * " + (1 + dice.nextInt(9)) + " + [hour - "
                    + dice.nextInt(24) + "] * " + dice.nextInt(4) + " if above < " + (1 + dice.nextInt(9))
                    + (dice.nextBoolean() ? " and hour > " + dice.nextInt(20) : "")
                    + (dice.nextBoolean() ? "; warm 10 + [inch - 12] * hour / 6 if inch > " + dice.nextInt(28) : "");
        }

        void go() {
            if (calm) {
                prepare();
            }
            int length = costly ? 100 : CALLS;
            for (int i = 0; i < length && !stopped; i++) {
                call();
            }
        }

        private void due(String call, int got, int want) {
            calls.add(call);
            if (got != want) {
                wrong++;
                stopped = true;
                System.out.println("run " + number + ", call " + calls.size() + ": " + call
                        + " answered " + got + ", due is " + want);
            }
        }

        private int in(int low, int high) {
            if (dice.nextInt(25) == 0) {
                int[] edges = {low - 1, high + 1, Integer.MIN_VALUE, Integer.MAX_VALUE, low, high};
                return edges[dice.nextInt(edges.length)];
            }
            return low + dice.nextInt(high - low + 1);
        }

        private int place() {
            return dice.nextInt(3) == 0 ? in(0, 63) : in(0, 40);
        }

        private int thing() {
            return dice.nextInt(6) == 0 ? in(0, 7) : in(0, Math.max(0, y.now.things.size() - 1));
        }

        private int angle() {
            return dice.nextInt(4) == 0 ? in(-500, 500) : in(-80, 60);
        }

        private void call() {
            if (dice.nextInt(100) < (calm ? 25 : 45)) {
                change();
            } else if (dice.nextInt(100) < 50 || !costly) {
                ask();
            } else {
                askCostly();
            }
        }

        private void change() {
            int a;
            int b;
            int c;
            switch (dice.nextInt(18)) {
                case 0: case 1:
                    a = place();
                    b = calm ? dice.nextInt(3) : dice.nextInt(3) == 0 ? in(0, 31) : in(0, 9);
                    due("rise(" + a + ", " + b + ")", x.rise(a, b), y.rise(a, b));
                    break;
                case 2:
                    a = place(); b = dice.nextInt(5) == 0 ? place() : a + dice.nextInt(12); c = in(0, 9);
                    due("ground(" + a + ", " + b + ", " + c + ")", x.ground(a, b, c), y.ground(a, b, c));
                    break;
                case 3: case 4:
                    a = place(); b = in(1, 31);
                    due("thing(" + a + ", " + b + ")", x.thing(a, b), y.thing(a, b));
                    break;
                case 5:
                    a = thing(); b = place();
                    due("move(" + a + ", " + b + ")", x.move(a, b), y.move(a, b));
                    break;
                case 6:
                    a = in(0, 3);
                    b = a == 0 ? in(0, 23) : a == 1 ? in(0, 9) : a == 2 ? in(0, dice.nextInt(9) == 0 ? 63 : 10) : in(0, 31);
                    due("terms(" + a + ", " + b + ")", x.terms(a, b), y.terms(a, b));
                    break;
                case 7:
                    feedBytes(rowBytes());
                    due("row()", x.row(), y.row());
                    due("worn()", x.worn(), y.worn());
                    break;
                case 8: case 9:
                    feedBytes(lawText().getBytes(java.nio.charset.StandardCharsets.ISO_8859_1));
                    due("law()", x.law(), y.law());
                    due("fault()", x.fault(), y.fault());
                    break;
                case 10: case 11:
                    a = dice.nextInt(8) == 0 ? in(-1, 6) : in(0, Math.max(0, y.now.laws.size() - 1));
                    due("force(" + a + ")", x.force(a), y.force(a));
                    break;
                case 12: case 13:
                    sight();
                    break;
                case 14:
                    a = in(0, 11);
                    due("drop(" + a + ")", x.drop(a), y.drop(a));
                    break;
                case 15:
                    a = in(0, 1);
                    due("image(" + a + ")", x.image(a), y.image(a));
                    break;
                case 16:
                    a = in(0, 1);
                    due("back(" + a + ")", x.back(a), y.back(a));
                    break;
                default:
                    tape();
            }
            due("status()", x.status(), y.status());
        }

        private void tape() {
            if (dice.nextBoolean()) {
                int n = in(0, 420);
                due("end(" + n + ")", x.end(n), y.end(n));
            } else {
                int[] f = {dice.nextInt(), dice.nextInt(), dice.nextInt(), dice.nextInt(), dice.nextInt()};
                due("feed(" + Arrays.toString(f) + ")", x.feed(f[0], f[1], f[2], f[3], f[4]),
                        y.feed(f[0], f[1], f[2], f[3], f[4]));
            }
        }

        private void sight() {
            int a = angle();
            int t = thing();
            int i = in(-1, 31);
            if (dice.nextInt(3) > 0 && y.hasThing(t) && Math.abs((long) a) <= 500) {
                Plain.Ray ray = y.ray(a);
                i = ray.end == 1 && ray.thing == t ? ray.inch : -1;
            }
            due("sight(" + a + ", " + t + ", " + i + ")", x.sight(a, t, i), y.sight(a, t, i));
        }

        private void feedBytes(byte[] bytes) {
            if (dice.nextInt(12) > 0) {
                due("end(0)", x.end(0), y.end(0));
            }
            for (int i = 0; i < bytes.length; i += 20) {
                int[] f = new int[5];
                for (int k = 0; k < 20; k++) {
                    int b = i + k < bytes.length ? bytes[i + k] & 255 : 32;
                    f[k / 4] = f[k / 4] << 8 | b;
                }
                due("feed(" + Arrays.toString(f) + ")", x.feed(f[0], f[1], f[2], f[3], f[4]),
                        y.feed(f[0], f[1], f[2], f[3], f[4]));
            }
            if (dice.nextInt(3) > 0) {
                due("end(" + bytes.length + ")", x.end(bytes.length), y.end(bytes.length));
            }
        }

        private byte[] rowBytes() {
            byte[] bytes = new byte[dice.nextInt(dice.nextInt(4) == 0 ? 120 : 40)];
            int top = calm ? 2 : 1 + dice.nextInt(40);
            for (int i = 0; i < bytes.length; i++) {
                bytes[i] = (byte) (dice.nextInt(15) == 0 ? dice.nextInt(256) : dice.nextInt(top));
            }
            return bytes;
        }

        private String lawText() {
            int sort = dice.nextInt(10);
            if (calm && sort < 7) {
                return mirage();
            }
            if (sort < 3) {
                int top = 11 + dice.nextInt(80);
                return "warm " + top + " - above * " + (1 + dice.nextInt(12))
                        + " if above < " + (1 + dice.nextInt(9))
                        + (dice.nextBoolean() ? " and hour > " + dice.nextInt(20) : "")
                        + (dice.nextBoolean() ? ";warm " + dice.nextInt(90) + "-inch*" + dice.nextInt(5)
                        + " if ground=" + dice.nextInt(3) + " or place>" + dice.nextInt(50) : "");
            }
            StringBuilder text = new StringBuilder();
            int clauses = dice.nextInt(20) == 0 ? 11 + dice.nextInt(3) : 1 + dice.nextInt(3);
            for (int i = 0; i < clauses; i++) {
                if (i > 0) {
                    text.append(dice.nextBoolean() ? ";" : " ; ");
                }
                text.append("warm ").append(sum(clauses > 9 ? 0 : 2));
                if (dice.nextInt(3) > 0) {
                    text.append(" if ").append(test(clauses > 9 ? 0 : 2));
                }
            }
            String made = text.toString();
            if (sort > 7) {
                made = spoil(made);
            }
            return made.length() > 400 ? made.substring(0, 400) : made;
        }

        private String spoil(String text) {
            String[] bits = {"warm", "if", "or", "and", "not", "(", ")", "[", "]", "+", "-", "*", "/", "<", ">", "=",
                ";", "1001", "1000", "0001", "inch", "inches", "A", "\u00e9", " ", "\t", "hour", "x"};
            StringBuilder b = new StringBuilder(text);
            for (int i = 0; i <= dice.nextInt(2); i++) {
                int at = dice.nextInt(b.length() + 1);
                if (dice.nextBoolean()) {
                    b.insert(at, bits[dice.nextInt(bits.length)]);
                } else {
                    b.delete(at, Math.min(b.length(), at + 1 + dice.nextInt(3)));
                }
            }
            return b.toString();
        }

        private String sum(int depth) {
            StringBuilder s = new StringBuilder(term(depth));
            while (dice.nextInt(5) < 2) {
                s.append(dice.nextBoolean() ? " + " : "-").append(term(depth));
            }
            return s.toString();
        }

        private String term(int depth) {
            StringBuilder s = new StringBuilder(part(depth));
            while (dice.nextInt(5) < 2) {
                s.append(dice.nextInt(3) > 0 ? "*" : " / ").append(part(depth));
            }
            return s.toString();
        }

        private String part(int depth) {
            String[] words = {"inch", "above", "place", "ground", "rise", "hour"};
            int sort = dice.nextInt(10);
            if (sort < 3) {
                return "" + dice.nextInt(dice.nextInt(4) == 0 ? 1002 : 60);
            }
            if (sort < 5 && depth > 0) {
                return "[" + sum(depth - 1) + "]";
            }
            return words[dice.nextInt(words.length)];
        }

        private String test(int depth) {
            StringBuilder s = new StringBuilder(both(depth));
            while (dice.nextInt(4) == 0) {
                s.append(" or ").append(both(depth));
            }
            return s.toString();
        }

        private String both(int depth) {
            StringBuilder s = new StringBuilder(plain(depth));
            while (dice.nextInt(4) == 0) {
                s.append(" and ").append(plain(depth));
            }
            return s.toString();
        }

        private String plain(int depth) {
            int sort = dice.nextInt(10);
            if (sort == 0) {
                return "not " + plain(depth);
            }
            if (sort < 3 && depth > 0) {
                return "(" + test(depth - 1) + ")";
            }
            return sum(Math.min(depth, 1)) + "<>=".charAt(dice.nextInt(3)) + sum(0);
        }

        private void ask() {
            int a;
            int b;
            int c;
            switch (dice.nextInt(17)) {
                case 0:
                    a = thing(); b = in(0, 2);
                    due("of(" + a + ", " + b + ")", x.of(a, b), y.of(a, b));
                    break;
                case 1: case 2:
                    a = place(); b = in(0, 31); c = in(0, 23);
                    due("warm(" + a + ", " + b + ", " + c + ")", x.warm(a, b, c), y.warm(a, b, c));
                    break;
                case 3: case 4:
                    a = angle(); b = in(0, 7);
                    due("ray(" + a + ", " + b + ")", x.ray(a, b), y.ray(a, b));
                    break;
                case 5:
                    a = angle(); b = place();
                    due("at(" + a + ", " + b + ")", x.at(a, b), y.at(a, b));
                    break;
                case 6:
                    a = thing();
                    due("seen(" + a + ")", x.seen(a), y.seen(a));
                    due("pictures(" + a + ")", x.pictures(a), y.pictures(a));
                    break;
                case 7: case 8:
                    a = thing(); b = in(0, 3); c = in(0, 4);
                    due("picture(" + a + ", " + b + ", " + c + ")", x.picture(a, b, c), y.picture(a, b, c));
                    break;
                case 9:
                    a = thing();
                    due("hidden(" + a + ")", x.hidden(a), y.hidden(a));
                    break;
                case 10:
                    a = in(0, 3);
                    due("water(" + a + ")", x.water(a), y.water(a));
                    due("horizon()", x.horizon(), y.horizon());
                    break;
                case 11:
                    a = thing(); b = in(0, 12);
                    due("aim(" + a + ", " + b + ")", x.aim(a, b), y.aim(a, b));
                    due("loom(" + a + ", " + b + ")", x.loom(a, b), y.loom(a, b));
                    break;
                case 12:
                    a = place();
                    due("shade(" + a + ")", x.shade(a), y.shade(a));
                    due("level(" + a + ")", x.level(a), y.level(a));
                    break;
                case 13:
                    a = angle(); b = angle();
                    due("cross(" + a + ", " + b + ")", x.cross(a, b), y.cross(a, b));
                    break;
                case 14:
                    a = in(0, 14);
                    due("count(" + a + ")", x.count(a), y.count(a));
                    break;
                case 15:
                    tremble();
                    break;
                default:
                    a = in(0, 23);
                    due("wrong(" + a + ")", x.wrong(a), y.wrong(a));
            }
        }

        private void tremble() {
            int s = in(0, 1000000);
            int a = angle();
            int t = in(0, 50);
            int m = in(1, 40);
            due("tremble(" + s + ", " + a + ", " + t + ", " + m + ")", x.tremble(s, a, t, m), y.tremble(s, a, t, m));
            int i = in(0, 39);
            due("trembled(" + i + ", 0)", x.trembled(i, 0), y.trembled(i, 0));
            due("trembled(" + i + ", 1)", x.trembled(i, 1), y.trembled(i, 1));
        }

        private void askCostly() {
            int a;
            int b;
            switch (dice.nextInt(7)) {
                case 0:
                    a = thing();
                    due("hours(" + a + ")", x.hours(a), y.hours(a));
                    break;
                case 1:
                    if (dice.nextInt(5) > 0) {
                        break;
                    }
                    a = in(1, 31); b = in(0, 1);
                    due("mark(" + a + ", " + b + ")", x.mark(a, b), y.mark(a, b));
                    break;
                case 2:
                    a = place();
                    due("best(" + a + ")", x.best(a), y.best(a));
                    break;
                case 3:
                    a = thing(); b = in(0, 2);
                    due("eyes(" + a + ", " + b + ")", x.eyes(a, b), y.eyes(a, b));
                    break;
                case 4:
                    a = in(1, 31); b = in(0, 3);
                    due("where(" + a + ", " + b + ")", x.where(a, b), y.where(a, b));
                    break;
                case 5:
                    due("fits()", x.fits(), y.fits());
                    break;
                default:
                    due("likely()", x.likely(), y.likely());
            }
        }
    }

    /** The document in its plainest form. */
    private static final class Plain {
        static final int NOTHING = -1000000;

        static final class State {
            int[] rises = new int[64];
            int[] grounds = new int[64];
            List<int[]> things = new ArrayList<>();
            int[] terms = {12, 1, 0, 16};
            List<String> laws = new ArrayList<>();
            int force = -1;
            List<int[]> sights = new ArrayList<>();

            State copy() {
                State s = new State();
                s.rises = rises.clone();
                s.grounds = grounds.clone();
                for (int[] t : things) {
                    s.things.add(t.clone());
                }
                s.terms = terms.clone();
                s.laws.addAll(laws);
                s.force = force;
                s.sights.addAll(sights);
                return s;
            }
        }

        static final class Ray {
            int end = 2;
            int place;
            int thing = -1;
            int inch = -1;
            int slope;
            int turns;
            int first;
            List<Integer> heights = new ArrayList<>();

            Integer heightAt(int p) {
                return p < first || p > place ? null : heights.get(p - first);
            }

            int lowest() {
                return heights.stream().mapToInt(h -> h).min().getAsInt();
            }
        }

        State now = new State();
        final State[] images = new State[2];
        String tape = "";
        int worn;
        int fault = -1;
        int status;
        final int[] refused = new int[7];
        List<Ray> trembled = new ArrayList<>();
        final int[][] memo = new int[24][];

        private int no(int by) {
            status = by;
            refused[-by]++;
            return by;
        }

        private int yes(int answer) {
            status = 0;
            Arrays.fill(memo, null);
            return answer;
        }

        private static boolean in(int n, int low, int high) {
            return low <= n && n <= high;
        }

        boolean hasThing(int t) {
            return in(t, 0, now.things.size() - 1);
        }

        private int thingAt(State s, int p) {
            for (int i = 0; i < s.things.size(); i++) {
                if (s.things.get(i)[0] == p) {
                    return i;
                }
            }
            return -1;
        }

        int rise(int p, int r) {
            if (!in(p, 0, 63) || !in(r, 0, 31)) {
                return no(-1);
            }
            int was = now.rises[p];
            now.rises[p] = r;
            return yes(was);
        }

        int ground(int f, int t, int g) {
            if (!in(f, 0, 63) || !in(t, 0, 63) || t < f || !in(g, 0, 9)) {
                return no(-1);
            }
            int n = 0;
            for (int p = f; p <= t; p++) {
                n += now.grounds[p] == g ? 0 : 1;
                now.grounds[p] = g;
            }
            return yes(n);
        }

        int thing(int p, int tall) {
            if (!in(p, 0, 63) || !in(tall, 1, 31)) {
                return no(-1);
            }
            if (thingAt(now, p) >= 0) {
                return no(-3);
            }
            if (now.things.size() == 8) {
                return no(-5);
            }
            now.things.add(new int[] {p, tall});
            return yes(now.things.size() - 1);
        }

        int move(int t, int p) {
            if (!in(p, 0, 63)) {
                return no(-1);
            }
            if (!hasThing(t)) {
                return no(-2);
            }
            if (thingAt(now, p) >= 0 && thingAt(now, p) != t) {
                return no(-3);
            }
            int was = now.things.get(t)[0];
            now.things.get(t)[0] = p;
            return yes(was);
        }

        private int there(int t) {
            int n = 0;
            int[] thing = now.things.get(t);
            for (int i = 0; i < thing[1]; i++) {
                n += now.rises[thing[0]] + i <= 31 ? 1 : 0;
            }
            return n;
        }

        int of(int t, int what) {
            if (!hasThing(t) || !in(what, 0, 2)) {
                return -1;
            }
            return what == 2 ? there(t) : now.things.get(t)[what];
        }

        int terms(int what, int v) {
            int[] tops = {23, 9, 63, 31};
            if (!in(what, 0, 3) || !in(v, 0, tops[what])) {
                return no(-1);
            }
            int was = now.terms[what];
            now.terms[what] = v;
            return yes(was);
        }

        int feed(int... numbers) {
            if (tape.length() + 20 > 400) {
                return -1;
            }
            StringBuilder b = new StringBuilder(tape);
            for (int n : numbers) {
                for (byte one : java.nio.ByteBuffer.allocate(4).putInt(n).array()) {
                    b.append((char) (one & 255));
                }
            }
            tape = b.toString();
            return tape.length();
        }

        int end(int n) {
            if (n < 0 || n > tape.length()) {
                return -1;
            }
            tape = tape.substring(0, n);
            return n;
        }

        int row() {
            if (tape.isEmpty()) {
                return no(-6);
            }
            int came = 0;
            worn = 0;
            for (int i = 0; i < tape.length(); i++) {
                if (i > 63 || tape.charAt(i) > 31) {
                    worn++;
                } else {
                    now.rises[i] = tape.charAt(i);
                    came++;
                }
            }
            tape = "";
            return yes(came);
        }

        int worn() {
            return worn;
        }

        int law() {
            String text = tape;
            tape = "";
            if (now.laws.size() == 6) {
                return no(-5);
            }
            try {
                fault = -1;
                new Text(text).check();
            } catch (Fault f) {
                fault = f.at;
                return no(-6);
            }
            now.laws.add(text);
            return yes(now.laws.size() - 1);
        }

        int fault() {
            return fault;
        }

        int force(int l) {
            if (l != -1 && !in(l, 0, now.laws.size() - 1)) {
                return no(-2);
            }
            int was = now.force;
            now.force = l;
            return yes(was);
        }

        int warm(int p, int i, int h) {
            return in(p, 0, 63) && in(i, 0, 31) && in(h, 0, 23) ? warmth(p, i, h) : NOTHING;
        }

        private int warmth(int p, int i, int h) {
            if (now.force < 0) {
                return 10;
            }
            if (memo[h] == null) {
                memo[h] = new int[2048];
                Arrays.fill(memo[h], NOTHING);
            }
            if (memo[h][p * 32 + i] == NOTHING) {
                Text text = new Text(now.laws.get(now.force));
                text.asked = java.util.Map.of("inch", (long) i, "above", (long) i - now.rises[p], "place", (long) p,
                        "ground", (long) now.grounds[p], "rise", (long) now.rises[p], "hour", (long) h);
                memo[h][p * 32 + i] = text.warmth();
            }
            return memo[h][p * 32 + i];
        }

        Ray ray(int angle) {
            return ray(now, angle, now.terms[0], now.terms[1], now.terms[3], null, 0);
        }

        private Ray ray(State s, int angle, int hour, int bend, int eye, long[] seed, int t) {
            Ray r = new Ray();
            r.first = now.terms[2];
            r.place = r.first;
            r.slope = angle;
            int h = eye * 100 + 50;
            r.heights.add(h);
            List<Integer> signs = new ArrayList<>();
            signs.add(angle);
            while (r.place < 63) {
                r.place++;
                h += r.slope;
                if (seed != null) {
                    seed[0] = (seed[0] * 1103 + 12345) % 1000003;
                    h += (int) (seed[0] % (2 * t + 1)) - t;
                }
                r.heights.add(h);
                int thing = thingAt(s, r.place);
                if (h < 100 * s.rises[r.place]) {
                    r.end = 0;
                    break;
                }
                if (h >= 3200) {
                    break;
                }
                if (thing >= 0 && h < 100 * (s.rises[r.place] + s.things.get(thing)[1])) {
                    r.end = 1;
                    r.thing = thing;
                    r.inch = (h - 100 * s.rises[r.place]) / 100;
                    break;
                }
                if (r.place == 63) {
                    break;
                }
                int inch = h / 100;
                int below = warmth(r.place, inch == 0 ? 0 : inch - 1, hour);
                int above = warmth(r.place, inch == 31 ? 31 : inch + 1, hour);
                r.slope = Math.min(2000, Math.max(-2000, r.slope + bend * (below - above)));
                signs.add(r.slope);
            }
            signs.removeIf(v -> v == 0);
            for (int i = 1; i < signs.size(); i++) {
                r.turns += signs.get(i) < 0 != signs.get(i - 1) < 0 ? 1 : 0;
            }
            return r;
        }

        int ray(int angle, int what) {
            if (!in(angle, -500, 500) || !in(what, 0, 7)) {
                return NOTHING;
            }
            Ray r = ray(angle);
            return new int[] {r.end, r.place, r.thing, r.inch, r.heights.get(r.heights.size() - 1), r.lowest(), r.turns,
                r.slope}[what];
        }

        int at(int angle, int p) {
            if (!in(angle, -500, 500)) {
                return NOTHING;
            }
            Integer h = ray(angle).heightAt(p);
            return h == null ? NOTHING : h;
        }

        private List<Ray> field(State s, int hour, int bend, int eye) {
            List<Ray> rays = new ArrayList<>();
            for (int a = -100; a <= 100; a++) {
                rays.add(ray(s, a, hour, bend, eye, null, 0));
            }
            return rays;
        }

        private List<Ray> field() {
            return field(now, now.terms[0], now.terms[1], now.terms[3]);
        }

        private static int seen(List<Ray> field, int t) {
            return (int) field.stream().filter(r -> r.end == 1 && r.thing == t).count();
        }

        int seen(int t) {
            return hasThing(t) ? seen(field(), t) : -1;
        }

        /** Each picture: lowest angle, highest, and the inches in between. */
        private static List<List<int[]>> pictures(List<Ray> field, int t) {
            List<List<int[]>> all = new ArrayList<>();
            List<int[]> open = new ArrayList<>();
            for (int i = 0; i <= 201; i++) {
                if (i < 201 && field.get(i).thing == t) {
                    open.add(new int[] {i - 100, field.get(i).inch});
                } else if (!open.isEmpty()) {
                    all.add(open);
                    open = new ArrayList<>();
                }
            }
            return all;
        }

        int pictures(int t) {
            return hasThing(t) ? pictures(field(), t).size() : -1;
        }

        int picture(int t, int i, int what) {
            if (!hasThing(t) || !in(what, 0, 4)) {
                return NOTHING;
            }
            List<List<int[]>> all = pictures(field(), t);
            if (!in(i, 0, all.size() - 1)) {
                return NOTHING;
            }
            List<int[]> one = all.get(i);
            int[] low = one.get(0);
            int[] high = one.get(one.size() - 1);
            switch (what) {
                case 0: return low[0];
                case 1: return high[0];
                case 2: return high[1] > low[1] ? 1 : high[1] < low[1] ? 2 : 0;
                case 3: return one.stream().mapToInt(v -> v[1]).min().getAsInt();
                default: return one.stream().mapToInt(v -> v[1]).max().getAsInt();
            }
        }

        private int hidden(List<Ray> field, int t) {
            int bits = 0;
            for (int i = 0; i < there(t); i++) {
                int inch = i;
                if (field.stream().noneMatch(r -> r.thing == t && r.inch == inch)) {
                    bits |= 1 << i;
                }
            }
            return bits;
        }

        int hidden(int t) {
            return hasThing(t) ? hidden(field(), t) : -1;
        }

        int water(int what) {
            List<Ray> field = field();
            List<Integer> angles = new ArrayList<>();
            for (int a = -100; a < 0; a++) {
                if (field.get(a + 100).end == 2) {
                    angles.add(a);
                }
            }
            if (what == 0) {
                return angles.size();
            }
            if (angles.isEmpty() || !in(what, 1, 3)) {
                return NOTHING;
            }
            int highest = angles.get(angles.size() - 1);
            Ray r = field.get(highest + 100);
            return what == 1 ? highest : what == 2 ? angles.get(0) : r.first + r.heights.indexOf(r.lowest());
        }

        int horizon() {
            List<Ray> field = field();
            int best = NOTHING;
            for (int i = 0; i < 201; i++) {
                best = field.get(i).end == 0 ? i - 100 : best;
            }
            return best;
        }

        private int aim(List<Ray> field, int t, int inch) {
            for (int i = 0; i < 201; i++) {
                if (field.get(i).end == 1 && field.get(i).thing == t && field.get(i).inch == inch) {
                    return i - 100;
                }
            }
            return NOTHING;
        }

        int aim(int t, int inch) {
            return hasThing(t) ? aim(field(), t, inch) : NOTHING;
        }

        int loom(int t, int inch) {
            int is = aim(t, inch);
            int would = aim(field(now, now.terms[0], 0, now.terms[3]), t, inch);
            return is == NOTHING || would == NOTHING ? NOTHING : is - would;
        }

        int shade(int p) {
            int least = NOTHING;
            for (Ray r : field()) {
                Integer h = r.heightAt(p);
                if (h != null && h >= 100 * now.rises[p] && (least == NOTHING || h < least)) {
                    least = h;
                }
            }
            return least;
        }

        int cross(int one, int other) {
            if (!in(one, -500, 500) || !in(other, -500, 500) || one == other) {
                return -1;
            }
            Ray more = ray(Math.max(one, other));
            Ray less = ray(Math.min(one, other));
            for (int p = now.terms[2] + 2; p < 64; p++) {
                if (more.heightAt(p) != null && less.heightAt(p) != null && more.heightAt(p) <= less.heightAt(p)) {
                    return p;
                }
            }
            return -1;
        }

        int hours(int t) {
            if (!hasThing(t)) {
                return -1;
            }
            int bits = 0;
            for (int h = 0; h < 24; h++) {
                bits |= seen(field(now, h, now.terms[1], now.terms[3]), t) > 0 ? 1 << h : 0;
            }
            return bits;
        }

        private State alone(int p, int tall) {
            State s = now.copy();
            s.things.clear();
            s.things.add(new int[] {p, tall});
            return s;
        }

        int mark(int tall, int what) {
            if (!in(tall, 1, 31) || !in(what, 0, 1)) {
                return -1;
            }
            int best = -1;
            int most = -1;
            for (int p = now.terms[2] + 1; p < 64; p++) {
                if (thingAt(now, p) >= 0) {
                    continue;
                }
                int n = 0;
                for (int h = 0; h < 24; h++) {
                    n += seen(field(alone(p, tall), h, now.terms[1], now.terms[3]), 0) > 0 ? 1 : 0;
                }
                if (n > most) {
                    most = n;
                    best = p;
                }
            }
            return best == -1 || what == 0 ? best : most;
        }

        private int error(int p, int hour) {
            Integer h = ray(now, 0, hour, now.terms[1], now.terms[3], null, 0).heightAt(p);
            return h == null || p <= now.terms[2] ? NOTHING : h - (100 * now.terms[3] + 50);
        }

        int level(int p) {
            return error(p, now.terms[0]);
        }

        int best(int p) {
            int best = -1;
            for (int h = 23; h >= 0; h--) {
                if (error(p, h) != NOTHING && (best == -1 || Math.abs(error(p, h)) <= Math.abs(error(p, best)))) {
                    best = h;
                }
            }
            return best;
        }

        int eyes(int t, int what) {
            if (!hasThing(t) || !in(what, 0, 2)) {
                return -1;
            }
            int n = 0;
            for (int e = 0; e < 32; e++) {
                List<Ray> field = field(now, now.terms[0], now.terms[1], e);
                boolean so = what == 0 ? seen(field, t) > 0
                        : what == 1 ? hidden(field, t) == 0 : pictures(field, t).size() > 1;
                n += so ? 1 : 0;
            }
            return n;
        }

        int where(int tall, int pictures) {
            if (!in(tall, 1, 31) || !in(pictures, 0, 9)) {
                return -1;
            }
            for (int p = now.terms[2] + 1; p < 64; p++) {
                if (thingAt(now, p) < 0 && pictures(
                        field(alone(p, tall), now.terms[0], now.terms[1], now.terms[3]), 0).size() == pictures) {
                    return p;
                }
            }
            return -1;
        }

        int sight(int a, int t, int i) {
            if (!in(a, -500, 500) || !in(i, -1, 31)) {
                return no(-1);
            }
            if (!hasThing(t)) {
                return no(-2);
            }
            if (now.sights.size() == 12) {
                return no(-5);
            }
            now.sights.add(new int[] {a, t, i});
            return yes(now.sights.size());
        }

        int drop(int i) {
            if (!in(i, 0, now.sights.size() - 1)) {
                return no(-2);
            }
            now.sights.remove(i);
            return yes(now.sights.size());
        }

        int wrong(int hour) {
            if (!in(hour, 0, 23)) {
                return -1;
            }
            int n = 0;
            for (int[] s : now.sights) {
                Ray r = ray(now, s[0], hour, now.terms[1], now.terms[3], null, 0);
                boolean so = s[2] == -1 ? r.thing != s[1] : r.thing == s[1] && r.inch == s[2];
                n += so ? 0 : 1;
            }
            return n;
        }

        int fits() {
            int bits = 0;
            for (int h = 0; h < 24; h++) {
                bits |= wrong(h) == 0 ? 1 << h : 0;
            }
            return bits;
        }

        int likely() {
            int best = 23;
            for (int h = 22; h >= 0; h--) {
                best = wrong(h) <= wrong(best) ? h : best;
            }
            return best;
        }

        int tremble(int s, int a, int t, int m) {
            if (!in(s, 0, 1000000) || !in(a, -500, 500) || !in(t, 0, 50) || !in(m, 1, 40)) {
                return no(-1);
            }
            long[] seed = {s};
            Ray without = ray(a);
            trembled = new ArrayList<>();
            int same = 0;
            for (int i = 0; i < m; i++) {
                Ray r = ray(now, a, now.terms[0], now.terms[1], now.terms[3], seed, t);
                trembled.add(r);
                same += r.end == without.end && r.thing == without.thing ? 1 : 0;
            }
            return yes(same);
        }

        int trembled(int i, int what) {
            if (!in(i, 0, trembled.size() - 1) || !in(what, 0, 1)) {
                return -1;
            }
            return what == 0 ? trembled.get(i).end : trembled.get(i).place;
        }

        int image(int k) {
            if (!in(k, 0, 1)) {
                return no(-1);
            }
            images[k] = now.copy();
            return yes(0);
        }

        int back(int k) {
            if (!in(k, 0, 1)) {
                return no(-1);
            }
            if (images[k] == null) {
                return no(-2);
            }
            now = images[k].copy();
            return yes(0);
        }

        int count(int what) {
            int rises = (int) Arrays.stream(now.rises).filter(r -> r > 0).count();
            int[] all = {now.things.size(), now.laws.size(), now.sights.size(), rises, tape.length(), refused[1],
                refused[2], refused[3], refused[5], refused[6], now.force, now.terms[0], now.terms[1], now.terms[2],
                now.terms[3]};
            return in(what, 0, 14) ? all[what] : -1;
        }

        int status() {
            return status;
        }
    }

    private static final class Fault extends RuntimeException {
        private static final long serialVersionUID = 1;
        final int at;

        Fault(int at) {
            this.at = at;
        }
    }

    /** A text that is read and worked out in one go; null stands for BROKEN. */
    private static final class Text {
        private static final java.util.regex.Pattern TOKEN = java.util.regex.Pattern.compile("[a-z]+|[0-9]+|[^ ]",
                java.util.regex.Pattern.DOTALL);
        private final List<String> tokens = new ArrayList<>();
        private final List<Integer> starts = new ArrayList<>();
        private int next;
        private int parts;
        java.util.Map<String, Long> asked = java.util.Map.of("inch", 0L, "above", 0L, "place", 0L, "ground", 0L,
                "rise", 0L, "hour", 0L);

        Text(String text) {
            java.util.regex.Matcher m = TOKEN.matcher(text);
            while (m.find()) {
                tokens.add(m.group());
                starts.add(m.start());
            }
            tokens.add("the end");
            starts.add(text.length());
        }

        private Fault fault() {
            return new Fault(starts.get(next));
        }

        private boolean is(String token) {
            return tokens.get(next).equals(token);
        }

        private void need(String token) {
            if (!is(token)) {
                throw fault();
            }
            next++;
        }

        void check() {
            warmth();
        }

        int warmth() {
            long told = 10;
            for (int clauses = 1;; clauses++) {
                if (clauses == 13) {
                    throw fault();
                }
                need("warm");
                Long sum = sum(0);
                Boolean holds = true;
                if (is("if")) {
                    next++;
                    holds = test(0);
                }
                if (sum != null && holds != null && holds) {
                    told = sum;
                }
                if (is("the end")) {
                    return (int) Math.max(-50, Math.min(99, told));
                }
                need(";");
            }
        }

        // What stands behind is read in any case, but thrown away where it
        // can't matter any more.
        private Boolean test(int depth) {
            Boolean so = both(depth);
            while (is("or")) {
                next++;
                Boolean other = both(depth);
                so = so == null || so ? so : other;
            }
            return so;
        }

        private Boolean both(int depth) {
            Boolean so = plain(depth);
            while (is("and")) {
                next++;
                Boolean other = plain(depth);
                so = so == null || !so ? so : other;
            }
            return so;
        }

        private Boolean plain(int depth) {
            if (is("not")) {
                next++;
                Boolean so = plain(depth);
                return so == null ? null : Boolean.valueOf(!so);
            }
            if (is("(")) {
                if (depth == 8) {
                    throw fault();
                }
                next++;
                Boolean so = test(depth + 1);
                need(")");
                return so;
            }
            Long left = sum(depth);
            String sign = tokens.get(next);
            if (!sign.equals("<") && !sign.equals(">") && !sign.equals("=")) {
                throw fault();
            }
            next++;
            Long right = sum(depth);
            if (left == null || right == null) {
                return null;
            }
            int order = left.compareTo(right);
            return sign.equals("<") ? order < 0 : sign.equals(">") ? order > 0 : order == 0;
        }

        private static Long near(Long value) {
            return value == null || Math.abs(value) > 1000000000L ? null : value;
        }

        private Long sum(int depth) {
            Long value = term(depth);
            while (is("+") || is("-")) {
                int sign = is("+") ? 1 : -1;
                next++;
                Long other = term(depth);
                value = value == null || other == null ? null : near(value + sign * other);
            }
            return value;
        }

        private Long term(int depth) {
            Long value = part(depth);
            while (is("*") || is("/")) {
                boolean times = is("*");
                next++;
                Long other = part(depth);
                if (value == null || other == null || !times && other == 0) {
                    value = null;
                } else {
                    value = near(times ? value * other : value / other);
                }
            }
            return value;
        }

        private Long part(int depth) {
            String token = tokens.get(next);
            if (token.equals("[")) {
                if (depth == 8) {
                    throw fault();
                }
                next++;
                Long value = sum(depth + 1);
                need("]");
                return value;
            }
            boolean digits = token.matches("[0-9]+");
            boolean good = digits ? new java.math.BigInteger(token).compareTo(java.math.BigInteger.valueOf(1000)) <= 0
                    : asked.containsKey(token);
            if (!good || parts == 50) {
                throw fault();
            }
            parts++;
            next++;
            return digits ? Long.valueOf(token) : asked.get(token);
        }
    }
}
