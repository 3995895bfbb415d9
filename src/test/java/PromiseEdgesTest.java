import java.math.BigInteger;

/**
 * The promises 1 to 14: each sentence that names an edge (too small, too large, empty, full, a refused
 * call) has a method of its own, and the sentence stands above it. The edges of places, r, directions,
 * limbs and rounding stand in TermsEdgesTest, what a refused call leaves alone in RefusedCallsTest.
 */
public final class PromiseEdgesTest extends Asking {
    private static final long MAX = Long.MAX_VALUE;
    private static final long MIN = Long.MIN_VALUE;
    private static final int[] NO_WAYS = {-1, 3, 4, Integer.MAX_VALUE, Integer.MIN_VALUE};

    private PromiseEdgesTest() {
    }

    public static void main(String[] args) {
        newObject();
        ofEmptyObjects();
        turnOfNoPlaces();
        segmentsOf200();
        segmentsOf200Refused();
        arcsOf200();
        arcsOf200Refused();
        commonPoints();
        lowestTerms();
        nearestEnds();
        distancesLimbs();
        distanceIsOfItsSegments();
        distanceOfNothing();
        distanceOfArcs();
        compareWithout();
        compareTheLargest();
        compareNearly();
        compareBelow0();
        crossNothing();
        crossWhatCant();
        atNothingCrossed();
        atNothingThere();
        atTheLatest();
        atWithoutRoots();
        onNothing();
        onNoPlace();
        overLeast();
        overTheLargest();
        overByNothing();
        rootOfTheEdges();
        rootRefused();
        cornersOf200();
        cornersRefused();
        fewCorners();
        goneRoundSeveralTimes();
        areaOfWhatWay();
        areaOfNoLimb();
        clearShapes();
        clearCorners();
        clearCrossing();
        Due.end();
    }

    /** Promise 1: 'No shapes, no corners; nothing was crossed.' */
    private static void newObject() {
        Due.is("NONE", -1, () -> NanoSigns.NONE);
        NanoSigns n = new NanoSigns();
        Due.fails("nothing was crossed", ISE, () -> n.at(0, 0, 0));
        Due.fails("no shape 0", IOOBE, () -> n.on(0, 0, 0));
        Due.is("no corners", 0, () -> area(n));
        Due.is("so shapes begin with 0", 0, () -> n.arc(0, 0, 1, 0, 0));
        Due.fails("a shape crosses nothing by itself", ISE, () -> n.at(0, 0, 0));
        Due.is("so there is room for 200 corners", true, () -> fill(n, 200));
        Due.is("and for no more", false, () -> n.corner(0, 0));
        Due.fails("each object has its own shapes", IOOBE, () -> new NanoSigns().on(0, 1, 0));
    }

    private static boolean fill(NanoSigns n, int corners) {
        boolean all = true;
        for (int i = 0; i < corners; i++) {
            all = n.corner(i, i * i) && all;
        }
        return all;
    }

    /** Promise 1: 'No shapes, no corners': what asks for none of them answers all the same. */
    private static void ofEmptyObjects() {
        NanoSigns n = new NanoSigns();
        Due.is("turn, compare, over, root", "1 1 3 2", () -> n.turn(0, 0, 4, 0, 9, 1) + " " + n.compare(1, 1, 2, 2)
            + " " + n.over(7, 2, 0) + " " + n.root(8, 0));
        n.clear();
        Due.is("still empty", 0, () -> n.segment(0, 0, 1, 1));
    }

    /** Promise 2: 'IllegalArgumentException, when one is no place': the others being places or not. */
    private static void turnOfNoPlaces() {
        NanoSigns n = new NanoSigns();
        Due.fails("all", IAE, () -> n.turn(MIN, MIN, MIN, MIN, MIN, MIN));
        Due.fails("two the same", IAE, () -> n.turn(E + 1, 0, E + 1, 0, 0, 0));
        Due.fails("all on one line", IAE, () -> n.turn(0, 0, E, 0, E + 1, 0));
        Due.fails("one, below", IAE, () -> n.turn(0, 0, 4, 0, 0, -E - 1));
        Due.is("and all at the edge are places", 1, () -> n.turn(-E, -E, E, -E, E, E));
    }

    private static NanoSigns full() {
        NanoSigns n = new NanoSigns();
        for (int i = 0; i < 200; i++) {
            if (i % 2 == 0) {
                n.segment(i, 0, i, 9);
            } else {
                n.arc(i, 0, 25, 0, 0);
            }
        }
        return n;
    }

    /** Promise 3: 'its number; NONE when there are 200 shapes.' */
    private static void segmentsOf200() {
        NanoSigns n = new NanoSigns();
        for (int i = 0; i < 199; i++) {
            n.arc(i, i, 1, 0, 0);
        }
        Due.is("the 200th", 199, () -> n.segment(0, 0, 5, 5));
        Due.is("the 201st", -1, () -> n.segment(0, 0, 6, 6));
        Due.is("once more", -1, () -> n.segment(0, 0, 7, 7));
        Due.is("the 200th is what it was", "true false", () -> n.on(199, 5, 5) + " " + n.on(199, 6, 6));
        Due.is("the first is what it was", "true false", () -> n.on(0, 1, 0) + " " + n.on(0, 6, 6));
        Due.fails("there is no 201st", IOOBE, () -> n.on(200, 6, 6));
        Due.fails("there is none of number NONE", IOOBE, () -> n.on(-1, 6, 6));
    }

    /** Promise 3: 'IllegalArgumentException (also when there are 200), when one is no place, or they are the same.' */
    private static void segmentsOf200Refused() {
        NanoSigns[] both = {new NanoSigns(), full()};
        for (NanoSigns n : both) {
            Due.fails("ax", IAE, () -> n.segment(E + 1, 0, 1, 1));
            Due.fails("ay", IAE, () -> n.segment(0, -E - 1, 1, 1));
            Due.fails("bx", IAE, () -> n.segment(0, 0, -E - 1, 1));
            Due.fails("by", IAE, () -> n.segment(0, 0, 1, E + 1));
            Due.fails("the same", IAE, () -> n.segment(5, -5, 5, -5));
            Due.fails("the same at the edge", IAE, () -> n.segment(-E, E, -E, E));
            Due.fails("the same, and no place", IAE, () -> n.segment(MIN, MIN, MIN, MIN));
        }
        Due.is("none was made", 0, () -> both[0].segment(0, 0, 1, 1));
        Due.is("none was made of 200", -1, () -> both[1].segment(0, 0, 1, 1));
    }

    /** Promise 4: 'An ARC likewise': its number; NONE when there are 200 shapes. */
    private static void arcsOf200() {
        NanoSigns n = new NanoSigns();
        for (int i = 0; i < 199; i++) {
            n.segment(i, i, i + 1, i);
        }
        Due.is("the 200th", 199, () -> n.arc(0, 0, 25, 0, 0));
        Due.is("the 201st", -1, () -> n.arc(0, 0, 36, 0, 0));
        Due.is("once more", -1, () -> n.arc(0, 0, 49, 0, 0));
        Due.is("the 200th is what it was", "true false", () -> n.on(199, 5, 0) + " " + n.on(199, 6, 0));
        Due.fails("there is no 201st", IOOBE, () -> n.on(200, 6, 0));
    }

    /** Promise 4: 'likewise. IllegalArgumentException, when it is no place, or r, FROM or TO are not so.' */
    private static void arcsOf200Refused() {
        NanoSigns[] both = {new NanoSigns(), full()};
        for (NanoSigns n : both) {
            Due.fails("x", IAE, () -> n.arc(E + 1, 0, 1, 0, 0));
            Due.fails("x below", IAE, () -> n.arc(-E - 1, 0, 1, 0, 0));
            Due.fails("y", IAE, () -> n.arc(0, E + 1, 1, 0, 0));
            Due.fails("y below", IAE, () -> n.arc(0, -E - 1, 1, 0, 0));
            Due.fails("r 0", IAE, () -> n.arc(0, 0, 0, 0, 0));
            Due.fails("r too large", IAE, () -> n.arc(0, 0, R + 1, 0, 0));
            Due.fails("from too small", IAE, () -> n.arc(0, 0, 1, -1, 0));
            Due.fails("from too large", IAE, () -> n.arc(0, 0, 1, 8, 0));
            Due.fails("to too small", IAE, () -> n.arc(0, 0, 1, 0, -1));
            Due.fails("to too large", IAE, () -> n.arc(0, 0, 1, 0, 8));
        }
        Due.is("none was made", 0, () -> both[0].arc(0, 0, 1, 0, 0));
        Due.is("none was made of 200", -1, () -> both[1].arc(0, 0, 1, 0, 0));
    }

    /** Promise 5: '0 above 1 when they have a point in common' */
    private static void commonPoints() {
        Due.is("crossing", "0/1", () -> apart(places(-E, -E, E, E), places(-E, E, E, -E)));
        Due.is("crossing between places", "0/1", () -> apart(places(0, 0, 3, 2), places(0, 1, 3, 0)));
        Due.is("an end on the middle", "0/1", () -> apart(places(-4, -2, 4, 2), places(2, 1, 9, -9)));
        Due.is("an end on an end", "0/1", () -> apart(places(0, 0, E, E), places(E, E, E, 0)));
        Due.is("on one line, one point", "0/1", () -> apart(places(0, 0, 4, 2), places(8, 4, 4, 2)));
        Due.is("on one line, many points", "0/1", () -> apart(places(0, 0, 8, 4), places(4, 2, 16, 8)));
        Due.is("inside", "0/1", () -> apart(places(0, 0, 0, 9), places(0, 3, 0, 4)));
        Due.is("the same", "0/1", () -> apart(places(0, 0, 9, 9), places(0, 0, 9, 9)));
        Due.is("the same, back", "0/1", () -> apart(places(0, 0, 9, 9), places(9, 9, 0, 0)));
        Due.is("itself", "0/1", () -> fraction(with(places(-E, 0, E, 1)), 0, 0));
        Due.is("just none, on one line", "5/1", () -> apart(places(0, 0, 4, 2), places(6, 3, 8, 4)));
        Due.is("just none, at an end", "1/1", () -> apart(places(0, 0, 4, 0), places(5, 0, 5, 9)));
        Due.is("just none, beside", "1/1", () -> apart(places(0, 0, 4, 0), places(2, 1, 2, 9)));
    }

    /** Promise 5: 'as a fraction in lowest terms' */
    private static void lowestTerms() {
        Due.is("whole", "9/1", () -> apart(places(0, 0, 7, 0), places(3, 3, 5, 3)));
        Due.is("whole, far", BigInteger.valueOf(2 * E).pow(2) + "/1",
            () -> apart(places(-E, -E, E, -E), places(-E, E, E, E)));
        Due.is("a half", "1/2", () -> apart(places(0, 0, 8, 8), places(4, 3, 9, 3)));
        Due.is("a half, far", "1/2", () -> apart(places(-E, -E, E, E), places(1, 0, E, 0)));
        Due.is("with parts without a common divisor", "16/5", () -> apart(places(0, 0, 8, 4), places(4, 0, 5, 0)));
        Due.is("the divisor is a square", "4/1", () -> apart(places(0, 0, 6, 8), places(5, 10, -1, 2)));
        BigInteger below = BigInteger.valueOf(2 * E).pow(2).add(BigInteger.valueOf(2 * E - 1).pow(2));
        Due.is("the least", "1/" + below,
            () -> apart(places(-E, -E, E, E - 1), places(1 - E, 1 - E, 1 - E, E)));
    }

    /** Promise 5: 'the distance of two segments': at the ends of one or of both, or between them. */
    private static void nearestEnds() {
        long[] level = places(-9, 0, 9, 0);
        long[] up = places(2, 3, 4, 99);
        Due.is("an end and the middle", "9/1", () -> apart(level, up));
        Due.is("the other end", "9/1", () -> apart(level, back(up)));
        Due.is("the other segment's end", "9/1", () -> apart(up, level));
        Due.is("the other segment's other end", "9/1", () -> apart(back(up), level));
        long[] near = places(12, 4, 99, 7);
        Due.is("ends, last and first", "25/1", () -> apart(level, near));
        Due.is("ends, last and last", "25/1", () -> apart(level, back(near)));
        Due.is("ends, first and first", "25/1", () -> apart(back(level), near));
        Due.is("ends, first and last", "25/1", () -> apart(back(level), back(near)));
        Due.is("just beside the end", "16/1", () -> apart(level, places(9, 4, 99, 7)));
        Due.is("just behind the end", "17/1", () -> apart(level, places(10, 4, 99, 7)));
    }

    private static long[] back(long[] s) {
        return places(s[2], s[3], s[0], s[1]);
    }

    /** Promise 5: 'limbs 0 .. 5': up to the highest of the largest number above the line. */
    private static void distancesLimbs() {
        BigInteger side = BigInteger.valueOf(2 * E);
        BigInteger less = side.subtract(BigInteger.ONE);
        BigInteger across = side.multiply(side).subtract(less);
        BigInteger above = across.multiply(across);
        BigInteger below = side.pow(2).add(less.pow(2));
        Due.is("no common divisor here", BigInteger.ONE, () -> above.gcd(below));
        NanoSigns n = with(places(-E, -E, E, E - 1), places(-E, E, 1 - E, E));
        for (int limb = 0; limb < 6; limb++) {
            int l = limb;
            long mask = (1L << 32) - 1;
            Due.is("above, limb " + l, above.shiftRight(32 * l).longValue() & mask, () -> n.distance(0, 1, 0, l));
            Due.is("below, limb " + l, below.shiftRight(32 * l).longValue() & mask, () -> n.distance(0, 1, 1, l));
        }
        Due.is("limb 5 is not 0", true, () -> n.distance(0, 1, 0, 5) > 0);
        for (int limb : new int[] {-1, 6, 7, 8, Integer.MAX_VALUE, Integer.MIN_VALUE}) {
            Due.fails("limb " + limb, IOOBE, () -> n.distance(0, 1, 0, limb));
            Due.fails("limb " + limb + " below", IOOBE, () -> n.distance(0, 1, 1, limb));
        }
    }

    /** Promise 5: 'of two segments': of those asked for, however often others were before. */
    private static void distanceIsOfItsSegments() {
        NanoSigns n = with(places(0, 0, 9, 0), places(0, 3, 9, 3), places(0, 5, 9, 5));
        Due.is("by turns", "9/1 25/1 4/1 9/1", () -> fraction(n, 0, 1) + " " + fraction(n, 0, 2) + " "
            + fraction(n, 1, 2) + " " + fraction(n, 1, 0));
        int across = n.segment(4, -4, 5, 4);
        Due.is("a point in common behind others", "0/1 1/1", () -> fraction(n, 0, across) + " " + fraction(n, across, 2));
        n.clear();
        Due.fails("cleared", IOOBE, () -> n.distance(1, 0, 0, 0));
        n.segment(0, 0, 9, 0);
        n.segment(0, 7, 9, 7);
        Due.is("others of the same numbers", "49/1", () -> fraction(n, 1, 0));
    }

    /** Promise 5: 'IndexOutOfBoundsException, when there is no such shape, part or limb' */
    private static void distanceOfNothing() {
        Due.fails("empty", IOOBE, () -> new NanoSigns().distance(0, 0, 0, 0));
        NanoSigns n = with(places(0, 0, 9, 0), places(0, 3, 9, 3));
        for (int k : new int[] {-1, 2, 3, 199, 200, 201, Integer.MAX_VALUE, Integer.MIN_VALUE}) {
            Due.fails("shape " + k, IOOBE, () -> n.distance(k, 0, 0, 0));
            Due.fails("second shape " + k, IOOBE, () -> n.distance(0, k, 0, 0));
            Due.fails("part " + k, IOOBE, () -> n.distance(0, 1, k, 0));
        }
        NanoSigns full = full();
        Due.is("the last one is there", 1, () -> full.distance(198, 196, 1, 0));
        Due.fails("the one behind the last one", IOOBE, () -> full.distance(198, 200, 1, 0));
    }

    /** Promise 5: 'IllegalArgumentException, when one is an arc', behind what is no such shape, part or limb. */
    private static void distanceOfArcs() {
        NanoSigns n = with(places(0, 0, 9, 0), places(0, 3, 9, 0, 0));
        Due.fails("first", IAE, () -> n.distance(1, 0, 0, 0));
        Due.fails("second", IAE, () -> n.distance(0, 1, 1, 5));
        Due.fails("both", IAE, () -> n.distance(1, 1, 0, 0));
        Due.fails("an arc, no shape", IOOBE, () -> n.distance(1, 2, 0, 0));
        Due.fails("no shape, an arc", IOOBE, () -> n.distance(-1, 1, 0, 0));
        Due.fails("an arc, no part", IOOBE, () -> n.distance(1, 0, 2, 0));
        Due.fails("an arc, no limb", IOOBE, () -> n.distance(0, 1, 0, 6));
    }

    private static int[] signs(long a, long b, long c, long d) {
        return new int[] {new NanoSigns().compare(a, b, c, d - 1), new NanoSigns().compare(a, b, c, d),
            new NanoSigns().compare(a, b, c, d + 1)};
    }

    private static void equal(String what, long a, long b, long c, long d) {
        Due.is(what, "[1, 0, -1]", () -> java.util.Arrays.toString(signs(a, b, c, d)));
    }

    /** Promise 6: 'a and b times the root of c, less d': where b or c is 0. */
    private static void compareWithout() {
        equal("b is 0", 7, 0, 5, 7);
        equal("c is 0", -7, 5, 0, -7);
        equal("c is 0, b is the least", 3, MIN, 0, 3);
        equal("b is 0, c is the largest", MAX - 1, 0, MAX, MAX - 1);
        equal("all are 0", 0, 0, 0, 0);
        Due.is("the largest less the least", 1, () -> new NanoSigns().compare(MAX, 0, 9, MIN));
        Due.is("the least less the largest", -1, () -> new NanoSigns().compare(MIN, 9, 0, MAX));
    }

    /** Promise 6: 'The sign (-1, 0, 1)': of the largest numbers, none of which wraps round. */
    private static void compareTheLargest() {
        NanoSigns n = new NanoSigns();
        Due.is("all above 0", 1, () -> n.compare(MAX, MAX, MAX, MIN));
        Due.is("all below 0", -1, () -> n.compare(MIN, MIN, MAX, MAX));
        Due.is("the root is more", 1, () -> n.compare(MIN, MAX, MAX, MAX));
        Due.is("the root is more, below 0", -1, () -> n.compare(MAX, MIN, MAX, MIN));
        Due.is("a less d is 2^64 - 1, equal", 0, () -> n.compare(MAX, -6148914691236517205L, 9, MIN));
        Due.is("a less d is 1 - 2^64, equal", 0, () -> n.compare(MIN, 6148914691236517205L, 9, MAX));
        Due.is("more by one", 1, () -> n.compare(MAX, -6148914691236517204L, 9, MIN));
        Due.is("less by one", -1, () -> n.compare(MAX, -6148914691236517206L, 9, MIN));
        equal("the largest square", 5, 1, 3037000499L * 3037000499L, 3037000504L);
        equal("b below 0", 5, -3, 49, -16);
        equal("b is the least", 0, MIN + 1, 1, MIN + 1);
    }

    /** Promise 6: 'The sign': where it is nearest to 0 and is not. */
    private static void compareNearly() {
        NanoSigns n = new NanoSigns();
        // p p - 2 q q is 1 or -1
        Due.is("the root of 2, above", 1, () -> n.compare(0, 5, 2, 7));
        Due.is("the root of 2, below", -1, () -> n.compare(0, 12, 2, 17));
        Due.is("the root of 2, above, far", 1, () -> n.compare(0, 2015874949414289041L, 2, 2850877693509864481L));
        Due.is("the root of 2, below, far", -1, () -> n.compare(0, 4866752642924153522L, 2, 6882627592338442563L));
        Due.is("below 0, far", 1, () -> n.compare(6882627592338442563L, -4866752642924153522L, 2, 0));
        // s s against s s - 1 and s s + 1, s the largest whole root
        long s = 3037000499L;
        Due.is("a square less one", -1, () -> n.compare(0, 1, s * s - 1, s));
        Due.is("a square and one", 1, () -> n.compare(0, 1, s * s + 1, s));
        Due.is("a square less one, below 0", 1, () -> n.compare(0, -1, s * s - 1, -s));
        Due.is("the root of the largest", "1 -1", () -> n.compare(0, 1, MAX, s) + " " + n.compare(0, 1, MAX, s + 1));
    }

    /** Promise 6: 'IllegalArgumentException, when c is below 0': also where b is 0. */
    private static void compareBelow0() {
        for (long c : new long[] {-1, -4, MIN, MIN + 1, -(1L << 32)}) {
            Due.fails("c " + c, IAE, () -> new NanoSigns().compare(1, 1, c, 1));
            Due.fails("c " + c + ", b 0", IAE, () -> new NanoSigns().compare(0, 0, c, 0));
        }
        Due.is("c 0", 0, () -> new NanoSigns().compare(1, 1, 0, 1));
    }

    private static NanoSigns crossed() {
        NanoSigns n = with(places(-9, 0, 9, 0), places(0, 0, 25, 0, 0), places(9, 0, 3, 0), places(0, 0, 25, 3, 4),
            places(20, 20, 30, 20));
        n.cross(0, 1);
        return n;
    }

    /** Promise 7: 'IndexOutOfBoundsException, when there is no such shape .. With both nothing is crossed.' */
    private static void crossNothing() {
        Due.fails("empty", IOOBE, () -> new NanoSigns().cross(0, 0));
        for (int k : new int[] {-1, 5, 6, 199, 200, Integer.MAX_VALUE, Integer.MIN_VALUE}) {
            NanoSigns n = crossed();
            Due.is("crossed", "-5 -5 -5", () -> ways(n, 0, 0));
            Due.fails("shape " + k, IOOBE, () -> n.cross(k, 0));
            Due.fails("nothing is crossed, shape " + k, ISE, () -> n.at(0, 0, 0));
            NanoSigns o = crossed();
            Due.fails("second shape " + k, IOOBE, () -> o.cross(0, k));
            Due.fails("nothing is crossed, second shape " + k, ISE, () -> o.at(0, 0, 0));
            Due.fails("no shape, all wrong behind it", ISE, () -> o.at(7, 7, 7));
            Due.is("and crossed again", 2, () -> o.cross(1, 0));
            Due.is("it is crossed again", "5 5 5", () -> ways(o, 1, 0));
        }
        Due.fails("both are none", IOOBE, () -> crossed().cross(-1, 5));
        Due.is("the last one of 200", 0, () -> full().cross(198, 196));
        Due.fails("the one behind it", IOOBE, () -> full().cross(198, 200));
    }

    /** Promise 7: 'IllegalArgumentException, when they CAN'T be crossed. With both nothing is crossed.' */
    private static void crossWhatCant() {
        int[][] cant = {{0, 2}, {2, 0}, {1, 3}, {3, 1}, {0, 0}, {1, 1}};
        for (int[] c : cant) {
            NanoSigns n = crossed();
            Due.fails("can't, " + c[0] + " " + c[1], IAE, () -> n.cross(c[0], c[1]));
            Due.fails("nothing is crossed", ISE, () -> n.at(0, 0, 0));
            Due.fails("nothing is crossed, no second point", ISE, () -> n.at(1, 1, 1));
            Due.is("crossed again, without points", 0, () -> n.cross(0, 4));
            Due.fails("crossed, but no point", IOOBE, () -> n.at(0, 0, 0));
        }
    }

    /** Promise 8: 'IllegalStateException, when nothing is crossed; otherwise IndexOutOfBoundsException' */
    private static void atNothingCrossed() {
        NanoSigns cleared = crossed();
        cleared.clear();
        NanoSigns never = with(places(-9, 0, 9, 0), places(0, 0, 25, 0, 0));
        for (NanoSigns n : new NanoSigns[] {new NanoSigns(), never, cleared}) {
            Due.fails("nothing is crossed", ISE, () -> n.at(0, 0, 0));
            Due.fails("nothing is crossed, no such point", ISE, () -> n.at(-1, 0, 0));
            Due.fails("nothing is crossed, no such axis", ISE, () -> n.at(0, 2, 0));
            Due.fails("nothing is crossed, no such way", ISE, () -> n.at(0, 0, 3));
        }
    }

    /** Promise 8: 'IndexOutOfBoundsException, when there is no such point, axis, or way of rounding.' */
    private static void atNothingThere() {
        NanoSigns n = crossed();
        for (int k : new int[] {-1, 2, 3, Integer.MAX_VALUE, Integer.MIN_VALUE}) {
            Due.fails("point " + k, IOOBE, () -> n.at(k, 0, 0));
            Due.fails("axis " + k, IOOBE, () -> n.at(0, k, 0));
        }
        for (int how : NO_WAYS) {
            Due.fails("way " + how, IOOBE, () -> n.at(0, 0, how));
            Due.fails("way " + how + ", whole", IOOBE, () -> n.at(1, 1, how));
        }
        int upright = n.segment(7, -7, 7, 7);
        Due.is("one point", 1, () -> n.cross(0, upright));
        Due.is("it", "7 0", () -> n.at(0, 0, 0) + " " + n.at(0, 1, 0));
        Due.fails("no second one, though there was one before", IOOBE, () -> n.at(1, 0, 0));
        Due.is("no points", 0, () -> n.cross(0, 4));
        Due.fails("no first one, though there was one before", IOOBE, () -> n.at(0, 0, 0));
        Due.fails("no first one, no axis", IOOBE, () -> n.at(0, 2, 3));
    }

    /** Promise 8: 'of the latest crossing': however many there were, and whatever was asked since. */
    private static void atTheLatest() {
        NanoSigns n = crossed();
        int upright = n.segment(3, -9, 3, 9);
        Due.is("the first", "-5 0, 5 0", () -> point(n, 0) + ", " + point(n, 1));
        Due.is("a second crossing", 2, () -> n.cross(1, upright));
        Due.is("the second", "3 -4, 3 4", () -> point(n, 0) + ", " + point(n, 1));
        Due.is("others", "0 4 false 1", () -> n.distance(0, 2, 0, 0) + " " + n.root(16, 0) + " " + n.on(0, 0, 9)
            + " " + n.turn(0, 0, 4, 0, 9, 1));
        Due.is("more", "6 true 0 1", () -> n.arc(0, 0, 1, 0, 0) + " " + n.corner(1, 1) + " " + n.area(0) + " "
            + n.compare(0, 1, 5, 2));
        Due.is("still the second", "3 -4, 3 4", () -> point(n, 0) + ", " + point(n, 1));
    }

    /** Promise 8: 'of the latest crossing': nothing of one with roots stays in one without them. */
    private static void atWithoutRoots() {
        NanoSigns n = with(places(-9, 1, 9, 2), places(0, 0, 25, 0, 0), places(7, 7, 9, 9), places(9, 9, 30, 30),
            places(7, 9, 9, 7));
        Due.is("roots", "2: -5..-4 1..2, 4..5 1..2", () -> met(n, 0, 1));
        Due.is("an end on an end, on one line", "1: 9 9", () -> met(n, 2, 3));
        Due.is("roots again", "2: -5..-4 1..2, 4..5 1..2", () -> met(n, 1, 0));
        Due.is("segments", "1: 8 8", () -> met(n, 2, 4));
        int touching = n.segment(-9, 5, 9, 5);
        Due.is("roots once more", "2: -5..-4 1..2, 4..5 1..2", () -> met(n, 1, 0));
        Due.is("the root of 0", "1: 0 5", () -> met(n, touching, 1));
    }

    private static String point(NanoSigns n, int k) {
        return n.at(k, 0, 2) + " " + n.at(k, 1, 2);
    }

    /** Promise 9: 'IndexOutOfBoundsException, when there is no such shape': also when it is no place. */
    private static void onNothing() {
        Due.fails("empty", IOOBE, () -> new NanoSigns().on(0, 0, 0));
        NanoSigns n = with(places(0, 0, 9, 0), places(0, 3, 9, 0, 0));
        for (int k : new int[] {-1, 2, 3, 199, 200, Integer.MAX_VALUE, Integer.MIN_VALUE}) {
            Due.fails("shape " + k, IOOBE, () -> n.on(k, 0, 0));
            Due.fails("shape " + k + ", and no place", IOOBE, () -> n.on(k, E + 1, 0));
        }
        Due.is("the last one of 200", true, () -> full().on(199, 199, 5));
        Due.fails("the one behind it", IOOBE, () -> full().on(200, 199, 5));
    }

    /** Promise 9: 'IllegalArgumentException, when it is no place': though it were one of the points. */
    private static void onNoPlace() {
        NanoSigns n = with(places(E, 0, 25, 0, 0), places(-E, 0, E, 0));
        Due.is("the points of an arc that are places", "true true", () -> n.on(0, E, 5) + " " + n.on(0, E - 5, 0));
        Due.fails("a point that is no place", IAE, () -> n.on(0, E + 5, 0));
        Due.fails("one more than the last one", IAE, () -> n.on(1, E + 1, 0));
        Due.fails("one less than the first one", IAE, () -> n.on(1, -E - 1, 0));
        Due.fails("y", IAE, () -> n.on(1, 0, MIN));
    }

    /** Promise 10: '(the least long by -1: itself)' */
    private static void overLeast() {
        Due.is("the least by -1", MIN + " " + MIN + " " + MIN, () -> over(MIN, -1));
        Due.is("the one above it by -1", MAX + " " + MAX + " " + MAX, () -> over(MIN + 1, -1));
        Due.is("the least by 1", MIN + " " + MIN + " " + MIN, () -> over(MIN, 1));
        Due.is("the least by itself", "1 1 1", () -> over(MIN, MIN));
        Due.is("the largest by 1", MAX + " " + MAX + " " + MAX, () -> over(MAX, 1));
        Due.is("the largest by -1", (MIN + 1) + " " + (MIN + 1) + " " + (MIN + 1), () -> over(MAX, -1));
    }

    /** Promise 10: 'a divided by b, ROUNDED': of the largest numbers, none of which wraps round. */
    private static void overTheLargest() {
        Due.is("the largest by 2", (MAX / 2) + " " + (MAX / 2 + 1) + " " + (MAX / 2 + 1), () -> over(MAX, 2));
        Due.is("the largest by -2", (-MAX / 2 - 1) + " " + (-MAX / 2) + " " + (-MAX / 2), () -> over(MAX, -2));
        Due.is("the largest by itself less 1", "1 2 1", () -> over(MAX, MAX - 1));
        Due.is("itself less 1 by the largest", "0 1 1", () -> over(MAX - 1, MAX));
        Due.is("the largest by the least", "-1 0 -1", () -> over(MAX, MIN));
        Due.is("the least by the largest", "-2 -1 -1", () -> over(MIN, MAX));
        Due.is("half of the least", "0 1 1", () -> over(MIN / 2, MIN));
        Due.is("one less than half of the least", "0 1 0", () -> over(MIN / 2 + 1, MIN));
        Due.is("half of the least, below 0", "-1 0 0", () -> over(-(MIN / 2), MIN));
        Due.is("more than half of the least, below 0", "-1 0 -1", () -> over(-(MIN / 2) + 1, MIN));
        Due.is("less than half of the largest", "0 1 0", () -> over(MAX / 2, MAX));
        Due.is("more than half of the largest", "0 1 1", () -> over(MAX / 2 + 1, MAX));
        Due.is("0 by the least", "0 0 0", () -> over(0, MIN));
    }

    /** Promise 10: 'ArithmeticException, when b is 0; otherwise IndexOutOfBoundsException, when there is no such way.' */
    private static void overByNothing() {
        NanoSigns n = new NanoSigns();
        for (long a : new long[] {0, 1, -1, MAX, MIN}) {
            Due.fails("by 0, down", AE, () -> n.over(a, 0, 0));
            Due.fails("by 0, up", AE, () -> n.over(a, 0, 1));
            Due.fails("by 0, nearest", AE, () -> n.over(a, 0, 2));
            for (int how : NO_WAYS) {
                Due.fails("by 0, no way " + how, AE, () -> n.over(a, 0, how));
                Due.fails("no way " + how, IOOBE, () -> n.over(a, 2, how));
                Due.fails("no way, whole " + how, IOOBE, () -> n.over(a, 1, how));
                Due.fails("no way, by -1 " + how, IOOBE, () -> n.over(a, -1, how));
            }
        }
    }

    /** Promise 11: 'The root of v, ROUNDED': of the least and the largest, and beside squares and halves. */
    private static void rootOfTheEdges() {
        Due.is("0", "0 0 0", () -> root(0));
        Due.is("1", "1 1 1", () -> root(1));
        Due.is("2", "1 2 1", () -> root(2));
        Due.is("3", "1 2 2", () -> root(3));
        Due.is("the largest", "3037000499 3037000500 3037000500", () -> root(MAX));
        for (long s : new long[] {2, 3, 94906266, 1L << 31, 3037000498L, 3037000499L}) {
            Due.is("a square, " + s, s + " " + s + " " + s, () -> root(s * s));
            Due.is("one less, " + s, (s - 1) + " " + s + " " + s, () -> root(s * s - 1));
            Due.is("one more, " + s, s + " " + (s + 1) + " " + s, () -> root(s * s + 1));
            Due.is("below the half, " + s, s + " " + (s + 1) + " " + s, () -> root(s * s + s));
            Due.is("above the half, " + s, s + " " + (s + 1) + " " + (s + 1), () -> root(s * s + s + 1));
        }
    }

    /** Promise 11: 'IndexOutOfBoundsException, when there is no such way; otherwise IllegalArgumentException, when v is below 0.' */
    private static void rootRefused() {
        NanoSigns n = new NanoSigns();
        for (int how : NO_WAYS) {
            Due.fails("no way " + how, IOOBE, () -> n.root(8, how));
            Due.fails("no way, a square " + how, IOOBE, () -> n.root(9, how));
            Due.fails("no way, below 0 " + how, IOOBE, () -> n.root(-1, how));
        }
        for (long v : new long[] {-1, -4, MIN, MIN + 1}) {
            Due.fails("down " + v, IAE, () -> n.root(v, 0));
            Due.fails("up " + v, IAE, () -> n.root(v, 1));
            Due.fails("nearest " + v, IAE, () -> n.root(v, 2));
        }
    }

    /** Promise 12: 'One more corner of a polygon: true; false when there are 200.' */
    private static void cornersOf200() {
        NanoSigns n = new NanoSigns();
        for (int i = 0; i < 199; i++) {
            int k = i;
            Due.is("corner " + k, true, () -> n.corner(k, k * k));
        }
        BigInteger before = area(n);
        Due.is("the 200th", true, () -> n.corner(0, E));
        BigInteger then = area(n);
        Due.is("it counts", false, () -> then.equals(before));
        Due.is("the 201st", false, () -> n.corner(-E, 0));
        Due.is("once more", false, () -> n.corner(-E, -E));
        Due.is("these don't count", then, () -> area(n));
        Due.is("the same place once more is a corner", true, () -> polygon(99, 5, 5, 5, 5).corner(5, 5));
        Due.is("200 times the same place", false, () -> polygon(100, 5, 5, 5, 5).corner(5, 5));
        Due.is("shapes take no room", true, () -> full().corner(5, 5));
        Due.is("corners take no room", 0, () -> polygon(100, 5, 5, 6, 6).segment(0, 0, 1, 1));
    }

    /** Promise 12: 'IllegalArgumentException, when it is no place': also when there are 200. */
    private static void cornersRefused() {
        NanoSigns[] all = {new NanoSigns(), polygon(1, 0, 0, 4, 0, 0, 4), polygon(100, 5, 5, 6, 6)};
        for (NanoSigns n : all) {
            BigInteger before = area(n);
            Due.fails("x", IAE, () -> n.corner(E + 1, 0));
            Due.fails("x below", IAE, () -> n.corner(-E - 1, 0));
            Due.fails("y", IAE, () -> n.corner(0, E + 1));
            Due.fails("y below", IAE, () -> n.corner(0, -E - 1));
            Due.is("none was added", before, () -> area(n));
        }
        Due.is("room for all", true, () -> fill(all[0], 200));
    }

    /** Promise 13: '0 with less than three corners' */
    private static void fewCorners() {
        NanoSigns n = new NanoSigns();
        Due.is("none", 0, () -> area(n));
        n.corner(E, -E);
        Due.is("one", 0, () -> area(n));
        n.corner(-7, E);
        Due.is("two", 0, () -> area(n));
        n.corner(E, E);
        Due.is("three", BigInteger.valueOf(2 * E).multiply(BigInteger.valueOf(-E - 7)), () -> area(n));
        Due.is("three in one place", 0, () -> area(polygon(3, 5, -9)));
        Due.is("three in two places", 0, () -> area(polygon(1, 5, -9, 7, 7, 5, -9)));
        Due.is("three on a line", 0, () -> area(polygon(1, 5, -9, 6, -7, 8, -3)));
    }

    /** Promise 13: '(what is gone round several times counts so often)' */
    private static void goneRoundSeveralTimes() {
        Due.is("once", 32, () -> area(polygon(1, 0, 0, 4, 0, 4, 4, 0, 4)));
        Due.is("twice", 64, () -> area(polygon(2, 0, 0, 4, 0, 4, 4, 0, 4)));
        Due.is("fifty times", 1600, () -> area(polygon(50, 0, 0, 4, 0, 4, 4, 0, 4)));
        Due.is("there and back", 0, () -> area(polygon(1, 0, 0, 4, 0, 4, 4, 0, 4, 0, 0, 0, 4, 4, 4, 4, 0)));
        Due.is("the middle twice", 40, () -> area(polygon(1, 0, 0, 4, 0, 4, 4, 0, 4, 0, 0, 2, 0, 2, 2, 0, 2)));
        BigInteger most = BigInteger.valueOf(2 * E).pow(2).multiply(BigInteger.valueOf(100));
        Due.is("the most", most, () -> area(polygon(50, -E, -E, E, -E, E, E, -E, E)));
        Due.is("the least", most.negate(), () -> area(polygon(50, -E, E, E, E, E, -E, -E, -E)));
    }

    /** Promise 13: 'above 0 if its corners turn to the left, below 0 if to the right' */
    private static void areaOfWhatWay() {
        Due.is("left", 1, () -> area(polygon(1, E - 1, E, E, E - 1, E, E)));
        Due.is("right", -1, () -> area(polygon(1, E, E - 1, E - 1, E, E, E)));
        Due.is("left, begun elsewhere", 1, () -> area(polygon(1, E, E, E - 1, E, E, E - 1)));
        Due.is("left and as much right", 0, () -> area(polygon(1, 0, 0, 2, 2, 2, 0, 0, 2)));
        Due.is("left and less right", 6, () -> area(polygon(1, 0, 0, 4, 0, 0, 4, 0, 0, 0, 2, 5, 0)));
    }

    /** Promise 13: 'A limb (0 .. 3) .. IndexOutOfBoundsException, when there is no such limb.' */
    private static void areaOfNoLimb() {
        NanoSigns[] all = {new NanoSigns(), polygon(1, 0, 0, 4, 0, 0, 4), polygon(100, 5, 5, 6, 6)};
        for (NanoSigns n : all) {
            for (int limb : new int[] {-1, 4, 5, 8, Integer.MAX_VALUE, Integer.MIN_VALUE}) {
                Due.fails("limb " + limb, IOOBE, () -> n.area(limb));
            }
            Due.is("limb 3", 0, () -> n.area(3));
        }
    }

    /** Promise 14: 'No shapes' */
    private static void clearShapes() {
        NanoSigns n = full();
        n.clear();
        Due.fails("no shape 0", IOOBE, () -> n.on(0, 0, 0));
        Due.fails("no shape 199", IOOBE, () -> n.on(199, 199, 5));
        Due.fails("none to cross", IOOBE, () -> n.cross(0, 2));
        Due.fails("none with a distance", IOOBE, () -> n.distance(0, 2, 0, 0));
        Due.is("number 0 again", 0, () -> n.segment(7, 7, 8, 8));
        Due.is("it is the new one", "true false", () -> n.on(0, 7, 7) + " " + n.on(0, 0, 5));
        Due.fails("none behind it", IOOBE, () -> n.on(1, 1, 5));
        for (int i = 1; i < 200; i++) {
            int k = i;
            Due.is("number " + k + " again", k, () -> n.segment(k, 0, k, 1));
        }
        Due.is("full again", -1, () -> n.arc(0, 0, 1, 0, 0));
    }

    /** Promise 14: 'no corners' */
    private static void clearCorners() {
        NanoSigns n = polygon(50, -E, -E, E, -E, E, E, -E, 7);
        n.clear();
        Due.is("none", 0, () -> area(n));
        n.corner(100, 100);
        Due.is("one", 0, () -> area(n));
        n.corner(102, 100);
        Due.is("two", 0, () -> area(n));
        n.corner(100, 103);
        Due.is("three", 6, () -> area(n));
        Due.is("room for the rest of 200", true, () -> fill(n, 197));
        Due.is("and no more", false, () -> n.corner(0, 0));
    }

    /** Promise 14: 'nothing was crossed' */
    private static void clearCrossing() {
        NanoSigns n = crossed();
        n.clear();
        Due.fails("nothing was crossed", ISE, () -> n.at(0, 0, 0));
        n.segment(0, 0, 4, 4);
        n.segment(0, 4, 4, 0);
        Due.fails("still nothing", ISE, () -> n.at(0, 0, 0));
        Due.is("crossed anew", 1, () -> n.cross(0, 1));
        Due.is("the new point", "2 2", () -> point(n, 0));
        Due.fails("no second one from before", IOOBE, () -> n.at(1, 0, 0));
        n.clear();
        n.clear();
        Due.fails("cleared twice", ISE, () -> n.at(0, 0, 0));
    }
}
