import java.util.Arrays;

/**
 * Light over a road that is bent by warm and cold air. The words in capitals
 * are those of the document.
 */
public final class RoadWater {
    public static final int NONE = -1;
    public static final int NOTHING = -1000000;

    private static final int PLACES = 64;
    private static final int LAST_PLACE = 63;
    private static final int INCHES = 32;
    private static final int HIGHEST_RISE = 31;
    private static final int HIGHEST_GROUND = 9;
    private static final int HOURS = 24;
    private static final int ALL_HOURS = 16777215;
    private static final int THINGS = 8;
    private static final int TALLEST = 31;
    private static final int TERMS = 4;
    private static final int[] FIRST_TERMS = {12, 1, 0, 16};
    private static final int[] HIGHEST_TERMS = {23, 9, 63, 31};
    private static final int HOUR = 0;
    private static final int BEND = 1;
    private static final int EYE_PLACE = 2;
    private static final int EYE_HEIGHT = 3;

    private static final int LAWS = 6;
    private static final int SIGHTS = 12;
    private static final int IMAGES = 2;
    private static final int TAPE_BYTES = 400;
    private static final int FED_BYTES = 20;

    private static final int STEEPEST_ANGLE = 500;
    private static final int FIELD_EDGE = 100;
    private static final int FIELD_RAYS = 201;
    private static final int SKY_HEIGHT = 3200;
    private static final int STEEPEST_SLOPE = 2000;

    private static final int IN_GROUND = 0;
    private static final int IN_THING = 1;
    private static final int IN_SKY = 2;

    private static final int MOST_PICTURES = 9;
    private static final int HIGHEST_SEED = 1000000;
    private static final int MOST_TREMBLING = 50;
    private static final int MOST_RAYS = 40;

    private static final int BAD_NUMBER = -1;
    private static final int NO_SUCH = -2;
    private static final int STANDS_AGAINST = -3;
    private static final int NO_ROOM = -5;
    private static final int BAD_TEXT = -6;

    private final Road road;
    private final Road[] images;
    private final boolean[] kept;
    private final Tape tape;
    private final Reader reader;
    private final Air air;
    private final Light light;
    private final Field field;
    private final Survey survey;
    private final int[] trembledEnds;
    private final int[] trembledPlaces;
    private int trembledRays;
    private int wornBytes;
    private int latestFault;
    private int latestRefusal;
    private final int[] refusals;

    public RoadWater() {
        road = new Road();
        images = new Road[IMAGES];
        for (int k = 0; k < IMAGES; k++) {
            images[k] = new Road();
        }
        kept = new boolean[IMAGES];
        tape = new Tape();
        reader = new Reader();
        air = new Air(road);
        light = new Light(road, air);
        field = new Field(light);
        survey = new Survey(road, light);
        trembledEnds = new int[MOST_RAYS];
        trembledPlaces = new int[MOST_RAYS];
        latestFault = NONE;
        refusals = new int[-BAD_TEXT + 1];
    }

    public int rise(int place, int rise) {
        if (!isPlace(place) || !isWithin(rise, 0, HIGHEST_RISE)) {
            return refuse(BAD_NUMBER);
        }
        int before = road.rises[place];
        road.rises[place] = rise;
        air.forgetPlace(place);
        return accept(before);
    }

    public int ground(int from, int to, int ground) {
        if (!isPlace(from) || !isPlace(to) || to < from || !isWithin(ground, 0, HIGHEST_GROUND)) {
            return refuse(BAD_NUMBER);
        }
        int changed = 0;
        for (int place = from; place <= to; place++) {
            if (road.grounds[place] != ground) {
                road.grounds[place] = ground;
                air.forgetPlace(place);
                changed++;
            }
        }
        return accept(changed);
    }

    public int thing(int place, int tall) {
        if (!isPlace(place) || !isTall(tall)) {
            return refuse(BAD_NUMBER);
        }
        if (road.thingAt[place] != NONE) {
            return refuse(STANDS_AGAINST);
        }
        int number = road.thingCount;
        if (number >= THINGS) {
            return refuse(NO_ROOM);
        }
        road.thingPlaces[number] = place;
        road.thingTalls[number] = tall;
        road.thingAt[place] = number;
        road.thingCount++;
        return accept(number);
    }

    public int move(int thing, int place) {
        if (!isPlace(place)) {
            return refuse(BAD_NUMBER);
        }
        if (!road.hasThing(thing)) {
            return refuse(NO_SUCH);
        }
        int there = road.thingAt[place];
        if (there != NONE && there != thing) {
            return refuse(STANDS_AGAINST);
        }
        int before = road.thingPlaces[thing];
        road.thingAt[before] = NONE;
        road.thingAt[place] = thing;
        road.thingPlaces[thing] = place;
        return accept(before);
    }

    public int of(int thing, int what) {
        if (!road.hasThing(thing)) {
            return NONE;
        }
        switch (what) {
            case 0: return road.thingPlaces[thing];
            case 1: return road.thingTalls[thing];
            case 2: return road.inchesThere(thing);
            default: return NONE;
        }
    }

    public int terms(int what, int value) {
        if (!isWithin(what, 0, TERMS - 1) || !isWithin(value, 0, HIGHEST_TERMS[what])) {
            return refuse(BAD_NUMBER);
        }
        int before = road.terms[what];
        road.terms[what] = value;
        return accept(before);
    }

    public int feed(int a, int b, int c, int d, int e) {
        if (tape.length + FED_BYTES > TAPE_BYTES) {
            return NONE;
        }
        tape.append(a);
        tape.append(b);
        tape.append(c);
        tape.append(d);
        tape.append(e);
        return tape.length;
    }

    public int end(int n) {
        if (n < 0 || n > tape.length) {
            return NONE;
        }
        tape.length = n;
        return n;
    }

    public int row() {
        int length = tape.length;
        if (length == 0) {
            return refuse(BAD_TEXT);
        }
        int came = 0;
        for (int i = 0; i < length && i < PLACES; i++) {
            if (isWithin(tape.bytes[i], 0, HIGHEST_RISE)) {
                road.rises[i] = tape.bytes[i];
                air.forgetPlace(i);
                came++;
            }
        }
        wornBytes = length - came;
        tape.length = 0;
        return accept(came);
    }

    public int worn() {
        return wornBytes;
    }

    public int law() {
        int length = tape.length;
        tape.length = 0;
        int number = road.lawCount;
        if (number >= LAWS) {
            return refuse(NO_ROOM);
        }
        latestFault = reader.readText(tape.bytes, length);
        if (latestFault != NONE) {
            return refuse(BAD_TEXT);
        }
        road.laws[number] = reader.makeLaw();
        road.lawCount++;
        return accept(number);
    }

    public int fault() {
        return latestFault;
    }

    public int force(int law) {
        if (law != NONE && !isWithin(law, 0, road.lawCount - 1)) {
            return refuse(NO_SUCH);
        }
        int before = road.lawInForce;
        if (law != before) {
            road.lawInForce = law;
            air.forgetAll();
        }
        return accept(before);
    }

    public int warm(int place, int inch, int hour) {
        if (!isPlace(place) || !isWithin(inch, 0, INCHES - 1) || !isHour(hour)) {
            return NOTHING;
        }
        return air.warmth(air.ofHour(hour), place, inch);
    }

    public int ray(int angle, int what) {
        if (!isAngle(angle)) {
            return NOTHING;
        }
        light.standByTerms();
        light.send(angle);
        switch (what) {
            case 0: return light.ending;
            case 1: return light.place;
            case 2: return light.hitThing;
            case 3: return light.hitInch;
            case 4: return light.height;
            case 5: return light.heights[light.lowestPlace()];
            case 6: return light.turns();
            case 7: return light.slope;
            default: return NOTHING;
        }
    }

    public int at(int angle, int place) {
        if (!isAngle(angle) || !isPlace(place)) {
            return NOTHING;
        }
        light.standByTerms();
        light.send(angle);
        return light.comesTo(place) ? light.heights[place] : NOTHING;
    }

    public int seen(int thing) {
        if (!road.hasThing(thing)) {
            return NONE;
        }
        light.standByTerms();
        field.look();
        return field.raysTo(thing);
    }

    public int pictures(int thing) {
        if (!road.hasThing(thing)) {
            return NONE;
        }
        light.standByTerms();
        field.look();
        return field.picturesOf(thing);
    }

    public int picture(int thing, int i, int what) {
        if (!road.hasThing(thing)) {
            return NOTHING;
        }
        light.standByTerms();
        field.look();
        int low = field.pictureStart(thing, i);
        if (low == NOTHING) {
            return NOTHING;
        }
        int high = field.pictureStop(thing, low);
        switch (what) {
            case 0: return low;
            case 1: return high;
            case 2: return field.uprightness(low, high);
            case 3: return field.leastInch(low, high);
            case 4: return field.greatestInch(low, high);
            default: return NOTHING;
        }
    }

    public int hidden(int thing) {
        if (!road.hasThing(thing)) {
            return NONE;
        }
        light.standByTerms();
        field.look();
        return field.hiddenInches(thing, road.inchesThere(thing));
    }

    public int water(int what) {
        light.standByTerms();
        field.look();
        if (what == 0) {
            return field.waterAngles();
        }
        int highest = field.highestWater();
        if (highest == NOTHING) {
            return NOTHING;
        }
        switch (what) {
            case 1: return highest;
            case 2: return field.lowestWater();
            case 3:
                light.send(highest);
                return light.lowestPlace();
            default: return NOTHING;
        }
    }

    public int horizon() {
        light.standByTerms();
        field.look();
        return field.highestToGround();
    }

    public int aim(int thing, int inch) {
        if (!road.hasThing(thing)) {
            return NOTHING;
        }
        light.standByTerms();
        field.look();
        return field.lowestTo(thing, inch);
    }

    public int loom(int thing, int inch) {
        if (!road.hasThing(thing)) {
            return NOTHING;
        }
        light.standByTerms();
        field.look();
        int bent = field.lowestTo(thing, inch);
        if (bent == NOTHING) {
            return NOTHING;
        }
        light.bend = 0;
        field.look();
        int straight = field.lowestTo(thing, inch);
        return straight == NOTHING ? NOTHING : bent - straight;
    }

    public int shade(int place) {
        if (!isPlace(place)) {
            return NOTHING;
        }
        light.standByTerms();
        int lowest = NOTHING;
        for (int angle = -FIELD_EDGE; angle <= FIELD_EDGE; angle++) {
            light.send(angle);
            if (light.comesTo(place) && light.heights[place] >= 100 * road.rises[place]
                    && (lowest == NOTHING || light.heights[place] < lowest)) {
                lowest = light.heights[place];
            }
        }
        return lowest;
    }

    public int cross(int one, int other) {
        if (!isAngle(one) || !isAngle(other) || one == other) {
            return NONE;
        }
        light.standByTerms();
        return survey.crossing(Math.min(one, other), Math.max(one, other));
    }

    public int hours(int thing) {
        if (!road.hasThing(thing)) {
            return NONE;
        }
        light.standByTerms();
        int bits = 0;
        for (int hour = 0; hour < HOURS; hour++) {
            light.turnTo(hour);
            field.look();
            if (field.raysTo(thing) > 0) {
                bits |= 1 << hour;
            }
        }
        return bits;
    }

    public int mark(int tall, int what) {
        if (!isTall(tall) || !isWithin(what, 0, 1)) {
            return NONE;
        }
        light.standByTerms();
        survey.begin();
        int hours = air.differsByHour() ? HOURS : 1;
        for (int hour = 0; hour < hours; hour++) {
            light.turnTo(hour);
            survey.addHours(tall, hours == 1 ? ALL_HOURS : 1 << hour);
        }
        int best = survey.placeOfMostHours();
        return best == NONE || what == 0 ? best : survey.hoursAt(best);
    }

    public int level(int place) {
        if (!isPlace(place)) {
            return NOTHING;
        }
        light.standByTerms();
        return light.levelError(place);
    }

    public int best(int place) {
        if (!isPlace(place)) {
            return NONE;
        }
        light.standByTerms();
        int best = NONE;
        int least = 0;
        for (int hour = 0; hour < HOURS; hour++) {
            light.turnTo(hour);
            int error = light.levelError(place);
            if (error != NOTHING && (best == NONE || Math.abs(error) < least)) {
                best = hour;
                least = Math.abs(error);
            }
        }
        return best;
    }

    public int eyes(int thing, int what) {
        if (!road.hasThing(thing) || !isWithin(what, 0, 2)) {
            return NONE;
        }
        light.standByTerms();
        int heights = 0;
        for (int inch = 0; inch < INCHES; inch++) {
            light.eyeHeight = inch;
            field.look();
            boolean counts = what == 0 && field.raysTo(thing) > 0
                    || what == 1 && field.hiddenInches(thing, road.inchesThere(thing)) == 0
                    || what == 2 && field.picturesOf(thing) >= 2;
            if (counts) {
                heights++;
            }
        }
        return heights;
    }

    public int where(int tall, int pictures) {
        if (!isTall(tall) || !isWithin(pictures, 0, MOST_PICTURES)) {
            return NONE;
        }
        light.standByTerms();
        survey.begin();
        survey.addPictures(tall);
        return survey.firstPlaceWith(pictures);
    }

    public int sight(int angle, int thing, int inch) {
        if (!isAngle(angle) || !isWithin(inch, NONE, INCHES - 1)) {
            return refuse(BAD_NUMBER);
        }
        if (!road.hasThing(thing)) {
            return refuse(NO_SUCH);
        }
        int number = road.sightCount;
        if (number >= SIGHTS) {
            return refuse(NO_ROOM);
        }
        road.sightAngles[number] = angle;
        road.sightThings[number] = thing;
        road.sightInches[number] = inch;
        road.sightCount++;
        return accept(road.sightCount);
    }

    public int drop(int sight) {
        if (!isWithin(sight, 0, road.sightCount - 1)) {
            return refuse(NO_SUCH);
        }
        road.removeSight(sight);
        return accept(road.sightCount);
    }

    public int wrong(int hour) {
        if (!isHour(hour)) {
            return NONE;
        }
        return sightsWrong(hour);
    }

    public int fits() {
        int bits = 0;
        for (int hour = 0; hour < HOURS; hour++) {
            if (sightsWrong(hour) == 0) {
                bits |= 1 << hour;
            }
        }
        return bits;
    }

    public int likely() {
        int best = 0;
        int fewest = sightsWrong(0);
        for (int hour = 1; hour < HOURS; hour++) {
            int number = sightsWrong(hour);
            if (number < fewest) {
                best = hour;
                fewest = number;
            }
        }
        return best;
    }

    public int tremble(int seed, int angle, int trembling, int many) {
        if (!isWithin(seed, 0, HIGHEST_SEED) || !isAngle(angle)
                || !isWithin(trembling, 0, MOST_TREMBLING) || !isWithin(many, 1, MOST_RAYS)) {
            return refuse(BAD_NUMBER);
        }
        light.standByTerms();
        light.send(angle);
        int ending = light.ending;
        int thing = light.hitThing;
        light.seed = seed;
        light.trembling = trembling;
        int same = 0;
        for (int i = 0; i < many; i++) {
            light.send(angle);
            trembledEnds[i] = light.ending;
            trembledPlaces[i] = light.place;
            if (light.ending == ending && light.hitThing == thing) {
                same++;
            }
        }
        trembledRays = many;
        return accept(same);
    }

    public int trembled(int i, int what) {
        if (!isWithin(i, 0, trembledRays - 1)) {
            return NONE;
        }
        switch (what) {
            case 0: return trembledEnds[i];
            case 1: return trembledPlaces[i];
            default: return NONE;
        }
    }

    public int image(int k) {
        if (!isWithin(k, 0, IMAGES - 1)) {
            return refuse(BAD_NUMBER);
        }
        images[k].copyFrom(road);
        kept[k] = true;
        return accept(0);
    }

    public int back(int k) {
        if (!isWithin(k, 0, IMAGES - 1)) {
            return refuse(BAD_NUMBER);
        }
        if (!kept[k]) {
            return refuse(NO_SUCH);
        }
        road.copyFrom(images[k]);
        air.forgetAll();
        return accept(0);
    }

    public int count(int what) {
        switch (what) {
            case 0: return road.thingCount;
            case 1: return road.lawCount;
            case 2: return road.sightCount;
            case 3: return road.placesWithRise();
            case 4: return tape.length;
            case 5: return refusals[-BAD_NUMBER];
            case 6: return refusals[-NO_SUCH];
            case 7: return refusals[-STANDS_AGAINST];
            case 8: return refusals[-NO_ROOM];
            case 9: return refusals[-BAD_TEXT];
            case 10: return road.lawInForce;
            case 11: return road.terms[HOUR];
            case 12: return road.terms[BEND];
            case 13: return road.terms[EYE_PLACE];
            case 14: return road.terms[EYE_HEIGHT];
            default: return NONE;
        }
    }

    public int status() {
        return latestRefusal;
    }

    private int sightsWrong(int hour) {
        light.standByTerms();
        light.turnTo(hour);
        int number = 0;
        for (int i = 0; i < road.sightCount; i++) {
            light.send(road.sightAngles[i]);
            int inch = light.hitThing == road.sightThings[i] ? light.hitInch : NONE;
            if (inch != road.sightInches[i]) {
                number++;
            }
        }
        return number;
    }

    private int refuse(int by) {
        latestRefusal = by;
        if (isWithin(-by, 0, refusals.length - 1)) {
            refusals[-by]++;
        }
        return by;
    }

    // Every accepted change comes through here, so the field kept from an
    // earlier look is let go here and nowhere else.
    private int accept(int answer) {
        latestRefusal = 0;
        field.forget();
        return answer;
    }

    private static boolean isWithin(int number, int low, int high) {
        return number >= low && number <= high;
    }

    private static boolean isPlace(int number) {
        return isWithin(number, 0, PLACES - 1);
    }

    private static boolean isHour(int number) {
        return isWithin(number, 0, HOURS - 1);
    }

    private static boolean isTall(int number) {
        return isWithin(number, 1, TALLEST);
    }

    private static boolean isAngle(int number) {
        return isWithin(number, -STEEPEST_ANGLE, STEEPEST_ANGLE);
    }

    /** All that an IMAGE keeps. */
    private static final class Road {
        final int[] rises = new int[PLACES];
        final int[] grounds = new int[PLACES];
        final int[] thingAt = new int[PLACES];
        final int[] thingPlaces = new int[THINGS];
        final int[] thingTalls = new int[THINGS];
        int thingCount;
        final int[] terms = new int[TERMS];
        final Law[] laws = new Law[LAWS];
        int lawCount;
        int lawInForce;
        final int[] sightAngles = new int[SIGHTS];
        final int[] sightThings = new int[SIGHTS];
        final int[] sightInches = new int[SIGHTS];
        int sightCount;

        Road() {
            Arrays.fill(thingAt, NONE);
            System.arraycopy(FIRST_TERMS, 0, terms, 0, TERMS);
            lawInForce = NONE;
        }

        void copyFrom(Road other) {
            System.arraycopy(other.rises, 0, rises, 0, PLACES);
            System.arraycopy(other.grounds, 0, grounds, 0, PLACES);
            System.arraycopy(other.thingAt, 0, thingAt, 0, PLACES);
            System.arraycopy(other.thingPlaces, 0, thingPlaces, 0, THINGS);
            System.arraycopy(other.thingTalls, 0, thingTalls, 0, THINGS);
            thingCount = other.thingCount;
            System.arraycopy(other.terms, 0, terms, 0, TERMS);
            for (int i = 0; i < LAWS; i++) {
                laws[i] = other.laws[i];
            }
            lawCount = other.lawCount;
            lawInForce = other.lawInForce;
            System.arraycopy(other.sightAngles, 0, sightAngles, 0, SIGHTS);
            System.arraycopy(other.sightThings, 0, sightThings, 0, SIGHTS);
            System.arraycopy(other.sightInches, 0, sightInches, 0, SIGHTS);
            sightCount = other.sightCount;
        }

        boolean hasThing(int number) {
            return number >= 0 && number < thingCount;
        }

        int inchesThere(int number) {
            return Math.min(thingTalls[number], INCHES - rises[thingPlaces[number]]);
        }

        int placesWithRise() {
            int number = 0;
            for (int place = 0; place < PLACES; place++) {
                if (rises[place] > 0) {
                    number++;
                }
            }
            return number;
        }

        void removeSight(int number) {
            for (int i = number; i + 1 < sightCount; i++) {
                sightAngles[i] = sightAngles[i + 1];
                sightThings[i] = sightThings[i + 1];
                sightInches[i] = sightInches[i + 1];
            }
            sightCount--;
        }
    }

    private static final class Tape {
        final int[] bytes = new int[TAPE_BYTES];
        int length;

        void append(int number) {
            for (int shift = 24; shift >= 0 && length < TAPE_BYTES; shift -= 8) {
                bytes[length] = number >> shift & 255;
                length++;
            }
        }
    }

    /**
     * A LAW as instructions for a small stack. One int is one instruction: its
     * kind in the lowest four bits, its number above them.
     */
    private static final class Law {
        static final int NUMBER = 0;
        static final int WORD = 1;
        static final int NOT = 2;
        static final int AND = 3;
        static final int OR = 4;
        static final int PLUS = 5;
        static final int MINUS = 6;
        static final int TIMES = 7;
        static final int OVER = 8;
        static final int LESS = 9;
        static final int MORE = 10;
        static final int SAME = 11;

        static final int KIND_BITS = 4;
        static final int KIND_MASK = 15;
        static final int STACK = 64;
        static final int INCH = 0;
        static final int ABOVE = 1;
        static final int PLACE = 2;
        static final int GROUND = 3;
        static final int RISE = 4;
        static final int HOUR_NOW = 5;
        static final int WORDS = 6;
        static final int WITHOUT = 10;
        static final int COLDEST = -50;
        static final int WARMEST = 99;
        static final long FARTHEST = 1000000000L;
        static final long BROKEN = 2000000000L;

        private final int[] code;
        private final int[] sumStops;
        private final int[] clauseStops;
        final boolean asksHour;

        Law(int[] code, int[] sumStops, int[] clauseStops, boolean asksHour) {
            this.code = code;
            this.sumStops = sumStops;
            this.clauseStops = clauseStops;
            this.asksHour = asksHour;
        }

        // The last CLAUSE that HOLDS tells the WARMTH, so they are asked from
        // the last one on.
        int tell(int[] words, int[] stack) {
            for (int i = Math.min(sumStops.length, clauseStops.length) - 1; i >= 0; i--) {
                int start = i == 0 ? 0 : clauseStops[i - 1];
                boolean so = sumStops[i] == clauseStops[i]
                        || run(sumStops[i], clauseStops[i], words, stack) && stack[0] == 1;
                if (so && run(start, sumStops[i], words, stack)) {
                    return Math.max(COLDEST, Math.min(WARMEST, stack[0]));
                }
            }
            return WITHOUT;
        }

        // Leaves its answer (a TEST's is 1 or 0) in stack[0]; false if BROKEN.
        private boolean run(int from, int to, int[] words, int[] stack) {
            int top = -1;
            for (int i = from; i < to && i < code.length; i++) {
                int kind = code[i] & KIND_MASK;
                int number = code[i] >> KIND_BITS;
                if (kind <= WORD) {
                    if (top + 1 >= stack.length || number < 0 || kind == WORD && number >= words.length) {
                        return false;
                    }
                    top++;
                    stack[top] = kind == NUMBER ? number : words[number];
                } else if (kind <= OR) {
                    if (top < 0) {
                        return false;
                    }
                    if (kind == NOT) {
                        stack[top] = 1 - stack[top];
                    } else if ((stack[top] == 1) == (kind == OR)) {
                        i = Math.max(i, number - 1);
                    } else {
                        top--;
                    }
                } else {
                    if (top < 1) {
                        return false;
                    }
                    long value = joined(kind, stack[top - 1], stack[top]);
                    if (value > FARTHEST || value < -FARTHEST) {
                        return false;
                    }
                    top--;
                    stack[top] = (int) value;
                }
            }
            return top == 0;
        }

        private static long joined(int kind, long left, long right) {
            switch (kind) {
                case PLUS: return left + right;
                case MINUS: return left - right;
                case TIMES: return left * right;
                case OVER: return right == 0 ? BROKEN : left / right;
                case LESS: return left < right ? 1 : 0;
                case MORE: return left > right ? 1 : 0;
                case SAME: return left == right ? 1 : 0;
                default: return BROKEN;
            }
        }
    }

    /** Reads a TEXT into instructions, or finds its FAULT. */
    private static final class Reader {
        // A TOKEN that is a single byte has that byte as its kind.
        static final int STOP = 256;
        static final int DIGITS = 257;
        static final int OTHER_WORD = 258;
        static final int WARM = 259;
        static final int IF = 260;
        static final int OR = 261;
        static final int AND = 262;
        static final int NOT = 263;
        static final int FIRST_ASKED = 264;

        static final int BLANK = 32;
        static final int CLAUSES = 12;
        static final int PARTS = 50;
        static final int BRACKETS = 8;
        static final int GREATEST_NUMBER = 1000;

        private final int[] kinds = new int[TAPE_BYTES + 1];
        private final int[] starts = new int[TAPE_BYTES + 1];
        private final int[] numbers = new int[TAPE_BYTES + 1];
        private int tokens;
        private int token;
        private final int[] code = new int[TAPE_BYTES];
        private int size;
        private final int[] sumStops = new int[CLAUSES];
        private final int[] clauseStops = new int[CLAUSES];
        private int clauses;
        private int parts;
        private boolean asksHour;

        int readText(int[] text, int length) {
            split(text, Math.min(length, Math.min(text.length, TAPE_BYTES)));
            token = 0;
            size = 0;
            clauses = 0;
            parts = 0;
            asksHour = false;
            boolean read = readClause();
            for (int i = 0; i < TAPE_BYTES && read && takes(';'); i++) {
                read = readClause();
            }
            return read && kindHere() == STOP ? NONE : starts[token];
        }

        Law makeLaw() {
            return new Law(Arrays.copyOf(code, size), Arrays.copyOf(sumStops, clauses),
                    Arrays.copyOf(clauseStops, clauses), asksHour);
        }

        private void split(int[] text, int length) {
            tokens = 0;
            int ahead = BLANK;
            for (int i = 0; i < length; i++) {
                int sort = sortOf(text[i]);
                if (sort == DIGITS && ahead == DIGITS) {
                    addDigit(text[i]);
                } else if (sort == DIGITS) {
                    addToken(DIGITS, i, text[i] - '0');
                } else if (sort == OTHER_WORD && ahead != OTHER_WORD) {
                    addToken(wordKind(text, i, length), i, 0);
                } else if (sort != OTHER_WORD && sort != BLANK) {
                    addToken(sort, i, 0);
                }
                ahead = sort;
            }
            addToken(STOP, length, 0);
        }

        private static int sortOf(int sign) {
            if (sign >= 'a' && sign <= 'z') {
                return OTHER_WORD;
            }
            return sign >= '0' && sign <= '9' ? DIGITS : sign;
        }

        private void addToken(int kind, int start, int number) {
            if (tokens < kinds.length) {
                kinds[tokens] = kind;
                starts[tokens] = start;
                numbers[tokens] = number;
                tokens++;
            }
        }

        // A number beyond the greatest is beyond it whatever digits follow.
        private void addDigit(int sign) {
            if (tokens > 0 && numbers[tokens - 1] <= GREATEST_NUMBER) {
                numbers[tokens - 1] = numbers[tokens - 1] * 10 + sign - '0';
            }
        }

        private static int wordKind(int[] text, int start, int length) {
            int stop = start;
            while (stop < length && sortOf(text[stop]) == OTHER_WORD) {
                stop++;
            }
            if (spells(text, start, stop, "warm")) {
                return WARM;
            }
            if (spells(text, start, stop, "if")) {
                return IF;
            }
            if (spells(text, start, stop, "or")) {
                return OR;
            }
            if (spells(text, start, stop, "and")) {
                return AND;
            }
            if (spells(text, start, stop, "not")) {
                return NOT;
            }
            int asked = askedWord(text, start, stop);
            return asked == NONE ? OTHER_WORD : FIRST_ASKED + asked;
        }

        private static int askedWord(int[] text, int start, int stop) {
            if (spells(text, start, stop, "inch")) {
                return Law.INCH;
            }
            if (spells(text, start, stop, "above")) {
                return Law.ABOVE;
            }
            if (spells(text, start, stop, "place")) {
                return Law.PLACE;
            }
            if (spells(text, start, stop, "ground")) {
                return Law.GROUND;
            }
            if (spells(text, start, stop, "rise")) {
                return Law.RISE;
            }
            return spells(text, start, stop, "hour") ? Law.HOUR_NOW : NONE;
        }

        private static boolean spells(int[] text, int start, int stop, String word) {
            if (stop - start != word.length()) {
                return false;
            }
            for (int i = 0; i < word.length(); i++) {
                if (text[start + i] != word.charAt(i)) {
                    return false;
                }
            }
            return true;
        }

        private int kindHere() {
            return token < tokens ? kinds[token] : STOP;
        }

        private boolean takes(int kind) {
            if (token >= tokens || kinds[token] != kind) {
                return false;
            }
            token++;
            return true;
        }

        private int emit(int kind, int number) {
            int place = size;
            if (size < code.length) {
                code[size] = number << Law.KIND_BITS | kind;
                size++;
            }
            return place;
        }

        private void aimBehind(int jump) {
            if (jump < code.length) {
                code[jump] |= size << Law.KIND_BITS;
            }
        }

        private boolean readClause() {
            if (clauses >= CLAUSES || !takes(WARM) || !readSum(0)) {
                return false;
            }
            sumStops[clauses] = size;
            if (takes(IF) && !readTest(0)) {
                return false;
            }
            clauseStops[clauses] = size;
            clauses++;
            return true;
        }

        private boolean readTest(int depth) {
            if (!readBoth(depth)) {
                return false;
            }
            for (int i = 0; i < TAPE_BYTES && takes(OR); i++) {
                int jump = emit(Law.OR, 0);
                if (!readBoth(depth)) {
                    return false;
                }
                aimBehind(jump);
            }
            return true;
        }

        private boolean readBoth(int depth) {
            if (!readPlain(depth)) {
                return false;
            }
            for (int i = 0; i < TAPE_BYTES && takes(AND); i++) {
                int jump = emit(Law.AND, 0);
                if (!readPlain(depth)) {
                    return false;
                }
                aimBehind(jump);
            }
            return true;
        }

        private boolean readPlain(int depth) {
            boolean turned = false;
            for (int i = 0; i < TAPE_BYTES && takes(NOT); i++) {
                turned = !turned;
            }
            boolean read = kindHere() == '(' ? readInBrackets(depth) : readComparison(depth);
            if (read && turned) {
                emit(Law.NOT, 0);
            }
            return read;
        }

        private boolean readInBrackets(int depth) {
            return depth < BRACKETS && takes('(') && readTest(depth + 1) && takes(')');
        }

        private boolean readComparison(int depth) {
            if (!readSum(depth)) {
                return false;
            }
            int sign = kindHere();
            if (sign != '<' && sign != '>' && sign != '=') {
                return false;
            }
            token++;
            if (!readSum(depth)) {
                return false;
            }
            emit(sign == '<' ? Law.LESS : sign == '>' ? Law.MORE : Law.SAME, 0);
            return true;
        }

        private boolean readSum(int depth) {
            if (!readTerm(depth)) {
                return false;
            }
            for (int i = 0; i < TAPE_BYTES && (kindHere() == '+' || kindHere() == '-'); i++) {
                int kind = kindHere() == '+' ? Law.PLUS : Law.MINUS;
                token++;
                if (!readTerm(depth)) {
                    return false;
                }
                emit(kind, 0);
            }
            return true;
        }

        private boolean readTerm(int depth) {
            if (!readPart(depth)) {
                return false;
            }
            for (int i = 0; i < TAPE_BYTES && (kindHere() == '*' || kindHere() == '/'); i++) {
                int kind = kindHere() == '*' ? Law.TIMES : Law.OVER;
                token++;
                if (!readPart(depth)) {
                    return false;
                }
                emit(kind, 0);
            }
            return true;
        }

        private boolean readPart(int depth) {
            int kind = kindHere();
            if (kind == '[') {
                return depth < BRACKETS && takes('[') && readSum(depth + 1) && takes(']');
            }
            boolean isNumber = kind == DIGITS && numbers[token] <= GREATEST_NUMBER;
            boolean isWord = kind >= FIRST_ASKED && kind < FIRST_ASKED + Law.WORDS;
            if (!isNumber && !isWord || parts >= PARTS) {
                return false;
            }
            if (isNumber) {
                emit(Law.NUMBER, numbers[token]);
            } else {
                emit(Law.WORD, kind - FIRST_ASKED);
                asksHour = asksHour || kind == FIRST_ASKED + Law.HOUR_NOW;
            }
            parts++;
            token++;
            return true;
        }
    }

    /** What the air of one HOUR is like, as far as it has been asked for. */
    private static final class HourAir {
        static final int UNKNOWN = NOTHING;

        final int hour;
        final int[] warmths = new int[PLACES * INCHES];
        final int[] pulls = new int[PLACES * INCHES];
        final int[] ages = new int[PLACES];

        HourAir(int hour) {
            this.hour = hour;
        }

        void clear(int place, int age) {
            for (int i = place * INCHES; i < (place + 1) * INCHES; i++) {
                warmths[i] = UNKNOWN;
                pulls[i] = UNKNOWN;
            }
            ages[place] = age;
        }
    }

    /**
     * WARMTH by the LAW in FORCE. What was asked once is kept until the PLACE
     * it belongs to, or the LAW in FORCE, is another one.
     */
    private static final class Air {
        private final Road road;
        private final HourAir[] hoursKept = new HourAir[HOURS];
        private final int[] ages = new int[PLACES];
        private final int[] words = new int[Law.WORDS];
        private final int[] stack = new int[Law.STACK];

        Air(Road road) {
            this.road = road;
            Arrays.fill(ages, 1);
        }

        void forgetPlace(int place) {
            ages[place]++;
        }

        void forgetAll() {
            for (int place = 0; place < PLACES; place++) {
                ages[place]++;
            }
        }

        private Law lawInForce() {
            int number = road.lawInForce;
            return number >= 0 && number < LAWS ? road.laws[number] : null;
        }

        boolean differsByHour() {
            Law law = lawInForce();
            return law != null && law.asksHour;
        }

        // Under a LAW that does not ask the HOUR all HOURS share one air.
        HourAir ofHour(int hour) {
            int shared = differsByHour() ? hour : 0;
            HourAir air = hoursKept[shared];
            if (air == null) {
                air = new HourAir(shared);
                hoursKept[shared] = air;
            }
            for (int place = 0; place < PLACES; place++) {
                if (air.ages[place] != ages[place]) {
                    air.clear(place, ages[place]);
                }
            }
            return air;
        }

        /** What it is WARMER one INCH below an INCH than one above it. */
        int findPull(HourAir air, int place, int inch) {
            int pull = warmth(air, place, Math.max(inch - 1, 0))
                    - warmth(air, place, Math.min(inch + 1, INCHES - 1));
            air.pulls[place * INCHES + inch] = pull;
            return pull;
        }

        int warmth(HourAir air, int place, int inch) {
            int cell = place * INCHES + inch;
            if (air.warmths[cell] == HourAir.UNKNOWN) {
                Law law = lawInForce();
                layOut(place, inch, air.hour);
                air.warmths[cell] = law == null ? Law.WITHOUT : law.tell(words, stack);
            }
            return air.warmths[cell];
        }

        private void layOut(int place, int inch, int hour) {
            words[Law.INCH] = inch;
            words[Law.ABOVE] = inch - road.rises[place];
            words[Law.PLACE] = place;
            words[Law.GROUND] = road.grounds[place];
            words[Law.RISE] = road.rises[place];
            words[Law.HOUR_NOW] = hour;
        }
    }

    /** An EYE and the latest RAY that was sent from it. */
    private static final class Light {
        private final Road road;
        private final Air air;
        private final int[] noThings = new int[PLACES];

        int eyePlace;
        int eyeHeight;
        HourAir hourAir;
        int bend;
        boolean pastThings;
        int trembling;
        int seed;

        final int[] heights = new int[PLACES];
        int place;
        int height;
        int slope;
        int ending;
        int hitThing;
        int hitInch;

        Light(Road road, Air air) {
            this.road = road;
            this.air = air;
            Arrays.fill(noThings, NONE);
            hourAir = air.ofHour(0);
        }

        // Each call that sends RAYS begins here: the air may have changed
        // since the one ahead.
        void standByTerms() {
            turnTo(road.terms[HOUR]);
            bend = road.terms[BEND];
            eyePlace = road.terms[EYE_PLACE];
            eyeHeight = road.terms[EYE_HEIGHT];
            pastThings = false;
            trembling = 0;
        }

        void turnTo(int hour) {
            hourAir = air.ofHour(hour);
        }

        void send(int angle) {
            int[] things = pastThings ? noThings : road.thingAt;
            int[] pulls = hourAir.pulls;
            int at = eyePlace;
            int high = 100 * eyeHeight + 50;
            int steep = angle;
            heights[at] = high;
            boolean going = true;
            while (going && at < LAST_PLACE) {
                at++;
                high += steep;
                if (trembling > 0) {
                    high += drawn(2 * trembling + 1) - trembling;
                }
                heights[at] = high;
                int above = high - 100 * road.rises[at];
                going = above >= 0 && high < SKY_HEIGHT
                        && (things[at] == NONE || above >= 100 * road.thingTalls[things[at]]);
                if (going && at < LAST_PLACE) {
                    int pull = pulls[at * INCHES + high / 100];
                    if (pull == HourAir.UNKNOWN) {
                        pull = air.findPull(hourAir, at, high / 100);
                    }
                    steep = Math.max(-STEEPEST_SLOPE, Math.min(STEEPEST_SLOPE, steep + bend * pull));
                }
            }
            place = at;
            height = high;
            slope = steep;
            settle(going ? NONE : things[at], high - 100 * road.rises[at], going);
        }

        // Without a TREMBLING there are no DRAWS: all would be 0.
        private int drawn(int many) {
            seed = (int) ((seed * 1103L + 12345L) % 1000003L);
            return seed % many;
        }

        private void settle(int there, int above, boolean wentOn) {
            hitThing = NONE;
            hitInch = NONE;
            if (wentOn || height >= SKY_HEIGHT) {
                ending = IN_SKY;
            } else if (above < 0) {
                ending = IN_GROUND;
            } else {
                ending = IN_THING;
                hitThing = there;
                hitInch = above / 100;
            }
        }

        int lowestPlace() {
            int lowest = eyePlace;
            for (int at = eyePlace + 1; at <= place; at++) {
                if (heights[at] < heights[lowest]) {
                    lowest = at;
                }
            }
            return lowest;
        }

        // A RAY that does not TREMBLE climbs from PLACE to PLACE by its SLOPE.
        int turns() {
            int number = 0;
            int heading = 0;
            for (int at = eyePlace; at < place; at++) {
                int sign = Integer.signum(heights[at + 1] - heights[at]);
                if (sign != 0) {
                    number += sign == -heading ? 1 : 0;
                    heading = sign;
                }
            }
            return number;
        }

        boolean comesTo(int goal) {
            return goal >= eyePlace && goal <= place;
        }

        int levelError(int goal) {
            if (goal <= eyePlace) {
                return NOTHING;
            }
            send(0);
            return comesTo(goal) ? heights[goal] - heights[eyePlace] : NOTHING;
        }
    }

    /**
     * RAYS of the FIELD asked for each PLACE at once. A RAY that goes past all
     * THINGS is the same up to where one would stop it, so one RAY answers for
     * a THING at each PLACE that it comes to.
     */
    private static final class Survey {
        private final Road road;
        private final Light light;
        private final int[] tally = new int[PLACES];
        private final int[] former = new int[PLACES];

        Survey(Road road, Light light) {
            this.road = road;
            this.light = light;
        }

        int crossing(int lesser, int greater) {
            light.send(lesser);
            int lesserStop = light.place;
            System.arraycopy(light.heights, 0, former, 0, PLACES);
            light.send(greater);
            int stop = Math.min(lesserStop, light.place);
            for (int goal = light.eyePlace + 2; goal <= stop; goal++) {
                if (light.heights[goal] <= former[goal]) {
                    return goal;
                }
            }
            return NONE;
        }

        void begin() {
            light.pastThings = true;
            Arrays.fill(tally, 0);
            Arrays.fill(former, 0);
        }

        private boolean wouldEndIn(int goal, int tall) {
            int floor = 100 * road.rises[goal];
            int height = light.heights[goal];
            return light.comesTo(goal) && height >= floor && height < SKY_HEIGHT
                    && height < floor + 100 * tall;
        }

        /** Sets the HOURS' bits at each PLACE where a THING so TALL is SEEN. */
        void addHours(int tall, int bits) {
            for (int angle = -FIELD_EDGE; angle <= FIELD_EDGE; angle++) {
                light.send(angle);
                for (int goal = light.eyePlace + 1; goal <= light.place; goal++) {
                    if (wouldEndIn(goal, tall)) {
                        tally[goal] |= bits;
                    }
                }
            }
        }

        int hoursAt(int goal) {
            return Integer.bitCount(tally[goal]);
        }

        int placeOfMostHours() {
            int best = NONE;
            for (int goal = light.eyePlace + 1; goal < PLACES; goal++) {
                if (road.thingAt[goal] == NONE && (best == NONE || hoursAt(goal) > hoursAt(best))) {
                    best = goal;
                }
            }
            return best;
        }

        /** Counts at each PLACE the PICTURES of a THING so TALL. */
        void addPictures(int tall) {
            for (int angle = -FIELD_EDGE; angle <= FIELD_EDGE; angle++) {
                light.send(angle);
                for (int goal = light.eyePlace + 1; goal < PLACES; goal++) {
                    int seenNow = wouldEndIn(goal, tall) ? 1 : 0;
                    if (seenNow > former[goal]) {
                        tally[goal]++;
                    }
                    former[goal] = seenNow;
                }
            }
        }

        int firstPlaceWith(int number) {
            for (int goal = light.eyePlace + 1; goal < PLACES; goal++) {
                if (road.thingAt[goal] == NONE && tally[goal] == number) {
                    return goal;
                }
            }
            return NONE;
        }
    }

    /** Where the RAYS of the FIELD END, by ANGLE from the lowest on. */
    private static final class Field {
        private final Light light;
        private final int[] endings = new int[FIELD_RAYS];
        private final int[] hitThings = new int[FIELD_RAYS];
        private final int[] hitInches = new int[FIELD_RAYS];
        private boolean known;
        private HourAir knownAir;
        private int knownBend;
        private int knownEyeHeight;

        Field(Light light) {
            this.light = light;
        }

        void forget() {
            known = false;
        }

        void look() {
            if (known && knownAir == light.hourAir && knownBend == light.bend
                    && knownEyeHeight == light.eyeHeight) {
                return;
            }
            for (int i = 0; i < FIELD_RAYS; i++) {
                light.send(i - FIELD_EDGE);
                endings[i] = light.ending;
                hitThings[i] = light.hitThing;
                hitInches[i] = light.hitInch;
            }
            known = true;
            knownAir = light.hourAir;
            knownBend = light.bend;
            knownEyeHeight = light.eyeHeight;
        }

        int raysTo(int thing) {
            int number = 0;
            for (int i = 0; i < FIELD_RAYS; i++) {
                if (hitThings[i] == thing) {
                    number++;
                }
            }
            return number;
        }

        private boolean startsPicture(int i, int thing) {
            return hitThings[i] == thing && (i == 0 || hitThings[i - 1] != thing);
        }

        int picturesOf(int thing) {
            int number = 0;
            for (int i = 0; i < FIELD_RAYS; i++) {
                if (startsPicture(i, thing)) {
                    number++;
                }
            }
            return number;
        }

        int pictureStart(int thing, int picture) {
            int number = 0;
            for (int i = 0; i < FIELD_RAYS; i++) {
                if (startsPicture(i, thing)) {
                    if (number == picture) {
                        return i - FIELD_EDGE;
                    }
                    number++;
                }
            }
            return NOTHING;
        }

        int pictureStop(int thing, int low) {
            int stop = low + FIELD_EDGE;
            while (stop + 1 < FIELD_RAYS && hitThings[stop + 1] == thing) {
                stop++;
            }
            return stop - FIELD_EDGE;
        }

        int uprightness(int low, int high) {
            int below = hitInches[low + FIELD_EDGE];
            int above = hitInches[high + FIELD_EDGE];
            if (above == below) {
                return 0;
            }
            return above > below ? 1 : 2;
        }

        int leastInch(int low, int high) {
            int least = hitInches[low + FIELD_EDGE];
            for (int angle = low; angle <= high; angle++) {
                least = Math.min(least, hitInches[angle + FIELD_EDGE]);
            }
            return least;
        }

        int greatestInch(int low, int high) {
            int greatest = hitInches[low + FIELD_EDGE];
            for (int angle = low; angle <= high; angle++) {
                greatest = Math.max(greatest, hitInches[angle + FIELD_EDGE]);
            }
            return greatest;
        }

        int hiddenInches(int thing, int inchesThere) {
            int bits = (1 << inchesThere) - 1;
            for (int i = 0; i < FIELD_RAYS; i++) {
                if (hitThings[i] == thing) {
                    bits &= ~(1 << hitInches[i]);
                }
            }
            return bits;
        }

        int waterAngles() {
            int number = 0;
            for (int i = 0; i < FIELD_EDGE; i++) {
                if (endings[i] == IN_SKY) {
                    number++;
                }
            }
            return number;
        }

        int highestWater() {
            for (int i = FIELD_EDGE - 1; i >= 0; i--) {
                if (endings[i] == IN_SKY) {
                    return i - FIELD_EDGE;
                }
            }
            return NOTHING;
        }

        int lowestWater() {
            for (int i = 0; i < FIELD_EDGE; i++) {
                if (endings[i] == IN_SKY) {
                    return i - FIELD_EDGE;
                }
            }
            return NOTHING;
        }

        int highestToGround() {
            for (int i = FIELD_RAYS - 1; i >= 0; i--) {
                if (endings[i] == IN_GROUND) {
                    return i - FIELD_EDGE;
                }
            }
            return NOTHING;
        }

        int lowestTo(int thing, int inch) {
            for (int i = 0; i < FIELD_RAYS; i++) {
                if (hitThings[i] == thing && hitInches[i] == inch) {
                    return i - FIELD_EDGE;
                }
            }
            return NOTHING;
        }
    }
}
