import java.math.BigInteger;

/** Each promise by hand: ordinary inputs, the edges that the document names, wrong inputs. */
public final class PromisesTest extends Asking {
    private PromisesTest() {
    }

    public static void main(String[] args) {
        promise1();
        promise2();
        promise3();
        promise4();
        promise5();
        promise5Edges();
        promise6();
        promise7Segments();
        promise7Arcs();
        promise7Order();
        promise8();
        promise8Edges();
        promise9();
        promise10();
        promise11();
        promise12();
        promise13();
        promise14();
        Due.end();
    }

    private static void promise1() {
        NanoSigns n = new NanoSigns();
        Due.is("1 NONE", -1, () -> NanoSigns.NONE);
        Due.fails("1 at", ISE, () -> n.at(0, 0, 0));
        Due.fails("1 at, all wrong", ISE, () -> n.at(-1, 9, 9));
        Due.fails("1 on", IOOBE, () -> n.on(0, 0, 0));
        Due.fails("1 cross", IOOBE, () -> n.cross(0, 0));
        Due.fails("1 distance", IOOBE, () -> n.distance(0, 0, 0, 0));
        for (int limb = 0; limb < 4; limb++) {
            int l = limb;
            Due.is("1 area " + l, 0, () -> n.area(l));
        }
        Due.is("1 first shape", 0, () -> n.segment(0, 0, 1, 1));
        Due.is("1 first corner", true, () -> n.corner(0, 0));
        Due.is("1 another object has none", "throws java.lang.IndexOutOfBoundsException",
            () -> Due.told(() -> new NanoSigns().on(0, 0, 0)));
    }

    private static void promise2() {
        NanoSigns n = new NanoSigns();
        Due.is("2 left", 1, () -> n.turn(0, 0, 1, 0, 0, 1));
        Due.is("2 right", -1, () -> n.turn(0, 0, 0, 1, 1, 0));
        Due.is("2 line", 0, () -> n.turn(0, 0, 2, 2, -3, -3));
        Due.is("2 one place three times", 0, () -> n.turn(7, 7, 7, 7, 7, 7));
        Due.is("2 wide left", 1, () -> n.turn(-E, -E, E, E, E - 1, E));
        Due.is("2 wide right", -1, () -> n.turn(-E, -E, E, E, E, E - 1));
        Due.is("2 wide line", 0, () -> n.turn(-E, E, E, -E, 0, 0));
        Due.is("2 wide by one", -1, () -> n.turn(-E, -E, E, E - 1, E - 1, E - 2));
        Due.is("2 largest", 1, () -> n.turn(-E, -E, E, -E, E, E));
        Due.is("2 least", -1, () -> n.turn(-E, -E, E, E, E, -E));
        long[] wrong = {E + 1, -E - 1, Long.MAX_VALUE, Long.MIN_VALUE};
        for (long w : wrong) {
            Due.fails("2 ax", IAE, () -> n.turn(w, 0, 0, 0, 0, 0));
            Due.fails("2 ay", IAE, () -> n.turn(0, w, 0, 0, 0, 0));
            Due.fails("2 bx", IAE, () -> n.turn(0, 0, w, 0, 0, 0));
            Due.fails("2 by", IAE, () -> n.turn(0, 0, 0, w, 0, 0));
            Due.fails("2 cx", IAE, () -> n.turn(0, 0, 0, 0, w, 0));
            Due.fails("2 cy", IAE, () -> n.turn(0, 0, 0, 0, 0, w));
        }
    }

    private static void promise3() {
        NanoSigns n = new NanoSigns();
        long[] wrong = {E + 1, -E - 1, Long.MAX_VALUE, Long.MIN_VALUE};
        for (int i = 0; i < 200; i++) {
            int number = i;
            Due.fails("3 same", IAE, () -> n.segment(number, 1, number, 1));
            Due.is("3 number " + i, i, () -> n.segment(-E, number, E, E));
        }
        Due.is("3 full", -1, () -> n.segment(0, 0, 1, 1));
        Due.is("3 full for arcs", -1, () -> n.arc(0, 0, 1, 0, 0));
        Due.is("3 the last one is there", true, () -> n.on(199, E, E));
        Due.fails("3 no more", IOOBE, () -> n.on(200, E, E));
        Due.fails("3 full, same", IAE, () -> n.segment(5, 5, 5, 5));
        for (long w : wrong) {
            Due.fails("3 full, ax", IAE, () -> n.segment(w, 0, 1, 1));
            Due.fails("3 ax", IAE, () -> new NanoSigns().segment(w, 0, 1, 1));
            Due.fails("3 ay", IAE, () -> new NanoSigns().segment(0, w, 1, 1));
            Due.fails("3 bx", IAE, () -> new NanoSigns().segment(0, 0, w, 1));
            Due.fails("3 by", IAE, () -> new NanoSigns().segment(0, 0, 1, w));
        }
    }

    private static void promise4() {
        NanoSigns n = new NanoSigns();
        Due.is("4 arc", 0, () -> n.arc(E, -E, R, 7, 0));
        Due.is("4 segment next", 1, () -> n.segment(0, 0, 1, 1));
        Due.is("4 least r", 2, () -> n.arc(0, 0, 1, 0, 7));
        for (int i = 3; i < 200; i++) {
            int number = i;
            Due.is("4 number " + i, i, () -> n.arc(number, 0, number, number % 8, number / 8 % 8));
        }
        Due.is("4 full", -1, () -> n.arc(0, 0, 1, 0, 0));
        NanoSigns[] both = {n, new NanoSigns()};
        for (NanoSigns o : both) {
            Due.fails("4 x", IAE, () -> o.arc(E + 1, 0, 1, 0, 0));
            Due.fails("4 x below", IAE, () -> o.arc(-E - 1, 0, 1, 0, 0));
            Due.fails("4 y", IAE, () -> o.arc(0, E + 1, 1, 0, 0));
            Due.fails("4 y below", IAE, () -> o.arc(0, Long.MIN_VALUE, 1, 0, 0));
            Due.fails("4 r 0", IAE, () -> o.arc(0, 0, 0, 0, 0));
            Due.fails("4 r below 0", IAE, () -> o.arc(0, 0, Long.MIN_VALUE, 0, 0));
            Due.fails("4 r large", IAE, () -> o.arc(0, 0, R + 1, 0, 0));
            Due.fails("4 from -1", IAE, () -> o.arc(0, 0, 1, -1, 0));
            Due.fails("4 from 8", IAE, () -> o.arc(0, 0, 1, 8, 0));
            Due.fails("4 to -1", IAE, () -> o.arc(0, 0, 1, 0, -1));
            Due.fails("4 to 8", IAE, () -> o.arc(0, 0, 1, 0, 8));
        }
        Due.is("4 what was wrong made no shape", 0, () -> both[1].arc(0, 0, 1, 0, 0));
    }

    private static void promise5() {
        Due.is("5 side by side", "9/1", () -> apart(places(0, 0, 10, 0), places(3, 3, 7, 3)));
        Due.is("5 end to end", "25/1", () -> apart(places(0, 0, 10, 0), places(13, 4, 20, 9)));
        Due.is("5 end before start", "25/1", () -> apart(places(0, 0, 10, 0), places(-3, -4, -9, -9)));
        Due.is("5 end over line", "25/2", () -> apart(places(0, 0, 4, 4), places(5, 0, 9, 0)));
        Due.is("5 reduced", "1/2", () -> apart(places(0, 0, 4, 4), places(2, 1, 6, 1 - 4)));
        Due.is("5 crossing", "0/1", () -> apart(places(0, 0, 4, 4), places(0, 4, 4, 0)));
        Due.is("5 end on the middle", "0/1", () -> apart(places(0, 0, 6, 3), places(2, 1, 9, -9)));
        Due.is("5 one end in common", "0/1", () -> apart(places(0, 0, 6, 3), places(6, 3, 9, 9)));
        Due.is("5 on one line, apart", "20/1", () -> apart(places(0, 0, 2, 1), places(6, 3, 8, 4)));
        Due.is("5 on one line, over", "0/1", () -> apart(places(0, 0, 8, 4), places(2, 1, 4, 2)));
        Due.is("5 the same", "0/1", () -> apart(places(0, 0, 8, 4), places(8, 4, 0, 0)));
        Due.is("5 near the line, not the segment", "1/1",
            () -> apart(places(0, 0, 4, 4), places(4, 5, 9, 10)));
        NanoSigns n = new NanoSigns();
        n.segment(0, 0, 3, 4);
        n.arc(0, 0, 1, 0, 0);
        n.segment(9, 9, 3, 8);
        Due.is("5 with itself above", 0, () -> n.distance(0, 0, 0, 0));
        Due.is("5 with itself below", 1, () -> n.distance(0, 0, 1, 0));
        Due.fails("5 arc first", IAE, () -> n.distance(1, 0, 0, 0));
        Due.fails("5 arc second", IAE, () -> n.distance(0, 1, 0, 0));
        Due.fails("5 arcs", IAE, () -> n.distance(1, 1, 1, 5));
        int[][] wrong = {{-1, 0, 0, 0}, {3, 0, 0, 0}, {0, -1, 0, 0}, {0, 3, 0, 0}, {0, 2, -1, 0}, {0, 2, 2, 0},
            {0, 2, 0, -1}, {0, 2, 0, 6}, {1, 3, 0, 0}, {3, 1, 0, 0}, {1, 0, 2, 0}, {1, 0, 0, 6},
            {Integer.MIN_VALUE, 0, 0, 0}, {0, Integer.MAX_VALUE, 0, 0}, {0, 200, 0, 0},
            {0, 0, Integer.MIN_VALUE, 0}, {0, 0, 0, Integer.MAX_VALUE}};
        for (int[] w : wrong) {
            Due.fails("5 index", IOOBE, () -> n.distance(w[0], w[1], w[2], w[3]));
        }
    }

    private static void promise5Edges() {
        BigInteger side = BigInteger.valueOf(2 * E);
        BigInteger less = side.subtract(BigInteger.ONE);
        // s goes by (2E, 2E - 1), and the nearer end of t lies by (1, 2E) from its first place
        BigInteger cross = side.multiply(side).subtract(less);
        BigInteger above = cross.multiply(cross);
        BigInteger below = side.pow(2).add(less.pow(2));
        BigInteger g = above.gcd(below);
        Due.is("5 most bits", above.divide(g) + "/" + below.divide(g),
            () -> apart(places(-E, -E, E, E - 1), places(-E, E, -E + 1, E)));
        Due.is("5 widest", less.pow(2).multiply(BigInteger.TWO) + "/1",
            () -> apart(places(-E, -E, -E + 1, -E), places(E, E, E, E - 1)));
        Due.is("5 least", "1/" + below, () -> apart(places(-E, -E, E, E - 1), places(-E + 1, -E + 1, -E + 1, -E + 2)));
        NanoSigns n = new NanoSigns();
        n.segment(-E, -E, E, E - 1);
        n.segment(-E, E, -E + 1, E);
        Due.is("5 highest limb", above.divide(g).shiftRight(160).longValue(), () -> n.distance(0, 1, 0, 5));
        Due.is("5 a limb has no sign", above.divide(g).longValue() & 0xFFFFFFFFL, () -> n.distance(0, 1, 0, 0));
        Due.is("5 highest limb below", 0, () -> n.distance(0, 1, 1, 5));
    }

    private static void promise6() {
        NanoSigns n = new NanoSigns();
        long max = Long.MAX_VALUE;
        long min = Long.MIN_VALUE;
        Due.is("6 a is added, not multiplied", 1, () -> n.compare(10, 1, 4, 11));
        Due.is("6 equal", 0, () -> n.compare(5, -2, 9, -1));
        Due.is("6 b below 0", -1, () -> n.compare(5, -2, 10, -1));
        Due.is("6 just above", 1, () -> n.compare(0, 985, 2, 1393));
        Due.is("6 just below", -1, () -> n.compare(0, 408, 2, 577));
        Due.is("6 just below, b below 0", -1, () -> n.compare(0, -985, 2, -1393));
        Due.is("6 b 0", 0, () -> n.compare(3, 0, 7, 3));
        Due.is("6 c 0", 0, () -> n.compare(3, max, 0, 3));
        Due.is("6 c 0, b least", -1, () -> n.compare(2, min, 0, 3));
        Due.is("6 all 0", 0, () -> n.compare(0, 0, 0, 0));
        Due.is("6 no root, far", 1, () -> n.compare(max, 0, 0, min));
        Due.is("6 no root, far below", -1, () -> n.compare(min, 0, 5, max));
        Due.is("6 a less d is no long", -1, () -> n.compare(min, 1, max, max));
        Due.is("6 a less d is no long, equal", 0, () -> n.compare(max, -2, 1L << 62, max - (1L << 32)));
        Due.is("6 2^64 less 1 against 2^64", 1, () -> n.compare(min, 1L << 33, 1L << 62, max));
        Due.is("6 equal to 2^64 less 1", 0, () -> n.compare(min, max / 49 * 7, 4, min + max / 49 * 14));
        Due.is("6 (2^64 - 1) / 3 times 3", 0, () -> n.compare(min, 6148914691236517205L, 9, max));
        Due.is("6 and back", 0, () -> n.compare(max, -6148914691236517205L, 9, min));
        Due.is("6 less one", -1, () -> n.compare(min, 6148914691236517204L, 9, max));
        Due.is("6 largest", 1, () -> n.compare(max, max, max, min));
        Due.is("6 least", -1, () -> n.compare(min, min, max, max));
        Due.is("6 root of the largest", 1, () -> n.compare(0, 1, max, 3037000499L));
        Due.is("6 root of the largest, rounded up", -1, () -> n.compare(0, 1, max, 3037000500L));
        Due.fails("6 c below 0", IAE, () -> n.compare(0, 0, -1, 0));
        Due.fails("6 c least", IAE, () -> n.compare(1, 1, min, 1));
        nearRootOfTwo(n);
    }

    /** q and p with p p - 2 q q = 1 or -1, by turns: as near as whole numbers come to the root of 2. */
    private static void nearRootOfTwo(NanoSigns n) {
        long p = 1;
        long q = 1;
        for (int i = 0; i < 48; i++) {
            int want = i % 2 == 0 ? 1 : -1;
            long a = p;
            long b = q;
            Due.is("6 near the root of 2, " + i, want, () -> n.compare(0, b, 2, a));
            Due.is("6 near the root of 2, below 0, " + i, -want, () -> n.compare(7, -b, 2, 7 - a));
            p = a + 2 * b;
            q = a + b;
        }
    }

    private static void promise7Segments() {
        Due.is("7 crossing", "1: 2 2", () -> met(places(0, 0, 4, 4), places(0, 4, 4, 0)));
        Due.is("7 crossing between places", "1: 0..1 0..1", () -> met(places(0, 0, 1, 1), places(0, 1, 1, 0)));
        Due.is("7 end on the middle", "1: 2 2", () -> met(places(0, 0, 4, 4), places(2, 2, 4, 0)));
        Due.is("7 middle on the end", "1: 4 4", () -> met(places(0, 0, 4, 4), places(3, 5, 5, 3)));
        Due.is("7 ends", "1: 4 4", () -> met(places(0, 0, 4, 4), places(9, 3, 4, 4)));
        Due.is("7 starts", "1: 0 0", () -> met(places(0, 0, 4, 4), places(0, 0, 4, 0)));
        Due.is("7 just not", "0", () -> met(places(0, 0, 4, 4), places(3, 2, 9, -9)));
        Due.is("7 lines cross, segments don't", "0", () -> met(places(0, 0, 4, 4), places(8, 0, 0, 9)));
        Due.is("7 side by side", "0", () -> met(places(0, 0, 4, 4), places(1, 0, 5, 4)));
        Due.is("7 on one line, apart", "0", () -> met(places(0, 0, 4, 4), places(5, 5, 9, 9)));
        long[][] turns = {places(0, 0, 4, 2), places(4, 2, 0, 0)};
        long[][] others = {places(4, 2, 6, 3), places(6, 3, 4, 2)};
        for (long[] s : turns) {
            for (long[] t : others) {
                Due.is("7 on one line, one point", "1: 4 2", () -> met(s, t));
                Due.is("7 on one line, one point, back", "1: 4 2", () -> met(t, s));
            }
        }
        Due.is("7 upright, one point", "1: 3 5", () -> met(places(3, 0, 3, 5), places(3, 9, 3, 5)));
        Due.is("7 upright, apart", "0", () -> met(places(3, 0, 3, 5), places(3, 9, 3, 6)));
        Due.fails("7 over each other", IAE, () -> met(places(0, 0, 4, 2), places(2, 1, 6, 3)));
        Due.fails("7 inside", IAE, () -> met(places(0, 0, 8, 4), places(2, 1, 4, 2)));
        Due.fails("7 the same", IAE, () -> met(places(0, 0, 8, 4), places(0, 0, 8, 4)));
        Due.fails("7 the same, back", IAE, () -> met(places(0, 0, 8, 4), places(8, 4, 0, 0)));
        Due.fails("7 upright, over", IAE, () -> met(places(3, 0, 3, 5), places(3, 9, 3, 4)));
        Due.fails("7 from one place", IAE, () -> met(places(0, 0, 8, 4), places(0, 0, 2, 1)));
        Due.fails("7 itself", IAE, () -> with(places(0, 0, 1, 1)).cross(0, 0));
        Due.is("7 wide", "1: 0 0", () -> met(places(-E, -E, E, E), places(-E, E, E, -E)));
        Due.is("7 wide, by one", "0", () -> met(places(-E, -E, E, E - 1), places(E - 1, E - 1, E, E)));
        Due.is("7 wide, end of it", "1: " + E + " " + E,
            () -> met(places(-E, -E, E, E), places(E, -E, E, E)));
    }

    private static void promise7Arcs() {
        Due.is("7 line through", "2: -5 0, 5 0", () -> met(places(-9, 0, 9, 0), places(0, 0, 25, 0, 0)));
        Due.is("7 line touches", "1: 0 5", () -> met(places(-9, 5, 9, 5), places(0, 0, 25, 0, 0)));
        Due.is("7 line misses", "0", () -> met(places(-9, 6, 9, 6), places(0, 0, 25, 0, 0)));
        Due.is("7 segment inside", "0", () -> met(places(-4, 0, 4, 0), places(0, 0, 25, 0, 0)));
        Due.is("7 segment outside", "0", () -> met(places(6, 0, 9, 0), places(0, 0, 25, 0, 0)));
        Due.is("7 segment to it", "1: 3 4", () -> met(places(0, 0, 3, 4), places(0, 0, 25, 0, 0)));
        Due.is("7 segment from it", "1: 3 4", () -> met(places(3, 4, 6, 8), places(0, 0, 25, 0, 0)));
        Due.is("7 chord", "2: 3 4, -4 3", () -> met(places(3, 4, -4, 3), places(0, 0, 25, 0, 0)));
        Due.is("7 touches where no direction is", "0", () -> met(places(-9, 5, 9, 5), places(0, 0, 25, 3, 1)));
        Due.is("7 touches behind its end", "0", () -> met(places(1, 5, 9, 5), places(0, 0, 25, 0, 0)));
        Due.is("7 touches at its end", "1: 0 5", () -> met(places(0, 5, 9, 5), places(0, 0, 25, 0, 0)));
        Due.is("7 both ends of the arc", "2: -5 5, 5 5", () -> met(places(-9, 5, 9, 5), places(0, 0, 50, 1, 3)));
        Due.is("7 the other arc has them too", "2: -5 5, 5 5",
            () -> met(places(-9, 5, 9, 5), places(0, 0, 50, 3, 1)));
        Due.is("7 one end only", "1: -5 5", () -> met(places(-9, 5, 9, 5), places(0, 0, 50, 2, 5)));
        Due.is("7 over direction 0", "2: 5 -5, 5 5", () -> met(places(5, -9, 5, 9), places(0, 0, 50, 7, 1)));
        Due.is("7 a diagonal root", "1: 0..1 0..1", () -> met(places(0, 0, 3, 3), places(0, 0, 1, 0, 1)));
        Due.is("7 not behind it", "0", () -> met(places(0, 0, 3, 3), places(0, 0, 1, 2, 0)));
        Due.is("7 just below the diagonal", "0", () -> met(places(0, 0, E, E - 1), places(0, 0, 1, 1, 2)));
        Due.is("7 just below it, inside", "1: 0..1 0..1", () -> met(places(0, 0, E, E - 1), places(0, 0, 1, 0, 1)));
        eightDirections();
        Due.is("7 arcs", "2: 3 4, 3 -4", () -> met(places(0, 0, 25, 0, 0), places(6, 0, 25, 0, 0)));
        Due.is("7 arcs touch", "1: 2 0", () -> met(places(0, 0, 4, 0, 0), places(5, 0, 9, 0, 0)));
        Due.is("7 arcs touch inside", "1: 5 0", () -> met(places(0, 0, 25, 0, 0), places(2, 0, 9, 0, 0)));
        Due.is("7 roots touch", "1: 1 1", () -> met(places(0, 0, 2, 0, 0), places(3, 3, 8, 0, 0)));
        Due.is("7 arcs apart", "0", () -> met(places(0, 0, 4, 0, 0), places(6, 0, 9, 0, 0)));
        Due.is("7 arc inside", "0", () -> met(places(0, 0, 25, 0, 0), places(1, 0, 9, 0, 0)));
        Due.is("7 touch, not the first's direction", "0", () -> met(places(0, 0, 4, 1, 7), places(5, 0, 9, 0, 0)));
        Due.is("7 touch, not the second's direction", "0", () -> met(places(0, 0, 4, 0, 0), places(5, 0, 9, 5, 3)));
        Due.is("7 touch, ends of both", "1: 2 0", () -> met(places(0, 0, 4, 7, 0), places(5, 0, 9, 4, 5)));
        Due.is("7 one centre", "0", () -> met(places(1, 1, 25, 0, 0), places(1, 1, 24, 0, 0)));
        Due.fails("7 one circle", IAE, () -> met(places(1, 1, 25, 0, 0), places(1, 1, 25, 0, 0)));
        Due.fails("7 one circle, no direction in common", IAE,
            () -> met(places(1, 1, 25, 0, 1), places(1, 1, 25, 4, 5)));
        Due.fails("7 itself", IAE, () -> with(places(1, 1, 25, 0, 1)).cross(0, 0));
        Due.is("7 widest arcs", "1: 0 0", () -> met(places(-1L << 31, 0, R, 0, 0), places(1L << 31, 0, R, 0, 0)));
        Due.is("7 widest, by one", "0", () -> met(places(-1L << 31, 0, R, 0, 0), places(1L << 31, 0, R - 1, 0, 0)));
    }

    /** A short segment across each direction: an arc has it just from FROM to TO. */
    private static void eightDirections() {
        int[] x = {1, 1, 0, -1, -1, -1, 0, 1};
        int[] y = {0, 1, 1, 1, 0, -1, -1, -1};
        for (int from = 0; from < 8; from++) {
            for (int to = 0; to < 8; to++) {
                for (int way = 0; way < 8; way++) {
                    int next = (way + 1) % 8;
                    boolean has = to == from || (way - from + 8) % 8 <= (to - from + 8) % 8;
                    boolean hasBehind = to == from || (way - from + 8) % 8 < (to - from + 8) % 8;
                    NanoSigns n = with(places(7, -3, 10, from, to), places(7, -3, 7 + 9 * x[way], -3 + 9 * y[way]),
                        places(7, -3, 7 + 9 * (x[way] + x[next]), -3 + 9 * (y[way] + y[next])));
                    String name = "7 arc " + from + " to " + to + ", direction " + way;
                    Due.is(name, has ? 1 : 0, () -> n.cross(0, 1));
                    Due.is(name + " and a little", hasBehind ? 1 : 0, () -> n.cross(2, 0));
                }
            }
        }
    }

    private static void promise7Order() {
        NanoSigns n = with(places(0, 0, 25, 0, 0), places(6, 0, 25, 0, 0), places(9, 0, -9, 0), places(-9, 3, 9, 3),
            places(0, 6, 25, 0, 0), places(0, 0, 25, 6, 1));
        Due.is("7 left of the way there", "2: 3 4, 3 -4", () -> met(n, 0, 1));
        Due.is("7 left of the way back", "2: 3 -4, 3 4", () -> met(n, 1, 0));
        Due.is("7 left of the way up", "2: -4 3, 4 3", () -> met(n, 0, 4));
        Due.is("7 left of the way down", "2: 4 3, -4 3", () -> met(n, 4, 0));
        Due.is("7 from the first place", "2: 5 0, -5 0", () -> met(n, 2, 0));
        Due.is("7 the arc named first", "2: 5 0, -5 0", () -> met(n, 0, 2));
        Due.is("7 from the first place, to the right", "2: -4 3, 4 3", () -> met(n, 3, 0));
        Due.is("7 only the right one", "1: 3 -4", () -> met(n, 5, 1));
        int touching = n.segment(-9, 3, -20, 3);
        int roots = n.segment(-9, 1, 9, 2);
        int upright = n.segment(1, -1, 2, 1);
        Due.is("7 roots", "2: -5..-4 1..2, 4..5 1..2", () -> met(n, roots, 0));
        Due.is("7 one point after roots", "1: -9 3", () -> met(n, 3, touching));
        Due.is("7 roots", "2: -5..-4 1..2, 4..5 1..2", () -> met(n, 0, roots));
        Due.is("7 segments after roots", "1: 1..2 0", () -> met(n, upright, 2));
        Due.fails("7 no shape", IOOBE, () -> n.cross(-1, 0));
        Due.fails("7 no shape 9", IOOBE, () -> n.cross(9, 0));
        Due.fails("7 no second shape", IOOBE, () -> n.cross(0, -1));
        Due.fails("7 no second shape 9", IOOBE, () -> n.cross(0, 9));
        Due.fails("7 no shapes far", IOOBE, () -> n.cross(Integer.MAX_VALUE, Integer.MIN_VALUE));
        Due.is("7 crossed again", 2, () -> n.cross(0, 1));
        Due.is("7 a point", 3, () -> n.at(0, 0, 0));
        Due.fails("7 no shape", IOOBE, () -> n.cross(0, 9));
        Due.fails("7 nothing is crossed with no shape", ISE, () -> n.at(0, 0, 0));
        Due.is("7 crossed once more", 2, () -> n.cross(0, 1));
        Due.fails("7 can't", IAE, () -> n.cross(0, 5));
        Due.fails("7 nothing is crossed when it can't be", ISE, () -> n.at(0, 0, 0));
    }

    private static void promise8() {
        NanoSigns n = with(places(-5, 0, 5, 0), places(0, 0, 2, 0, 0), places(0, 0, 1, 1), places(0, 1, 1, 0),
            places(0, 0, -1, -1), places(0, -1, -1, 0), places(9, 9, 10, 10), places(0, 0, 3, 1), places(1, 0, 1, 5));
        Due.is("8 cross", 2, () -> n.cross(0, 1));
        Due.is("8 -root of 2", "-2 -1 -1", () -> ways(n, 0, 0));
        Due.is("8 root of 2", "1 2 1", () -> ways(n, 1, 0));
        Due.is("8 whole", "0 0 0", () -> ways(n, 1, 1));
        Due.fails("8 point -1", IOOBE, () -> n.at(-1, 0, 0));
        Due.fails("8 point 2", IOOBE, () -> n.at(2, 0, 0));
        Due.fails("8 point far", IOOBE, () -> n.at(Integer.MIN_VALUE, 0, 0));
        Due.fails("8 axis -1", IOOBE, () -> n.at(0, -1, 0));
        Due.fails("8 axis 2", IOOBE, () -> n.at(0, 2, 0));
        Due.fails("8 way -1", IOOBE, () -> n.at(0, 0, -1));
        Due.fails("8 way 3", IOOBE, () -> n.at(0, 0, 3));
        Due.is("8 still there", "-2 -1 -1", () -> ways(n, 0, 0));
        Due.is("8 cross", 1, () -> n.cross(2, 3));
        Due.is("8 a half", "0 1 1", () -> ways(n, 0, 0));
        Due.fails("8 no second point", IOOBE, () -> n.at(1, 0, 0));
        Due.is("8 cross", 1, () -> n.cross(4, 5));
        Due.is("8 a half below 0", "-1 0 0", () -> ways(n, 0, 1));
        Due.is("8 cross", 1, () -> n.cross(7, 8));
        Due.is("8 a third", "0 1 0", () -> ways(n, 0, 1));
        Due.is("8 other calls", "0 1 97 2 0", () -> n.turn(0, 0, 1, 1, 2, 2) + " " + n.compare(0, 1, 2, 1) + " "
            + n.distance(0, 6, 0, 0) + " " + n.over(7, 3, 0) + " " + n.area(0));
        Due.is("8 a shape more", 9, () -> n.arc(4, 4, 4, 0, 0));
        Due.is("8 on and corner", "true true", () -> n.on(0, 1, 0) + " " + n.corner(1, 1));
        Due.is("8 the latest crossing stays", "0 1 0", () -> ways(n, 0, 1));
        Due.is("8 no points", 0, () -> n.cross(0, 6));
        Due.fails("8 crossed without points", IOOBE, () -> n.at(0, 0, 0));
    }

    private static void promise8Edges() {
        NanoSigns n = with(places(-E, 0, E, 0), places(0, 0, R, 0, 0), places(E, E, R, 0, 0),
            places(E - (1L << 31), E - 1, E - (1L << 31), E), places(-E, -E, E, E - 1), places(-E, E, E, -E), places(0, 0, R - 1, 0, 0));
        Due.is("8 cross", 2, () -> n.cross(0, 1));
        Due.is("8 2^31 below 0", "-2147483648 -2147483648 -2147483648", () -> ways(n, 0, 0));
        Due.is("8 2^31", "2147483648 2147483648 2147483648", () -> ways(n, 1, 0));
        Due.is("8 cross", 2, () -> n.cross(0, 6));
        Due.is("8 just not 2^31 below 0", "-2147483648 -2147483647 -2147483648", () -> ways(n, 0, 0));
        Due.is("8 just not 2^31", "2147483647 2147483648 2147483648", () -> ways(n, 1, 0));
        Due.is("8 cross", 1, () -> n.cross(2, 3));
        Due.is("8 at the edge x", E - (1L << 31), () -> n.at(0, 0, 0));
        Due.is("8 at the edge y", E, () -> n.at(0, 1, 1));
        Due.is("8 cross", 1, () -> n.cross(4, 5));
        Due.is("8 1/4 and a little", "0 1 0", () -> ways(n, 0, 0));
        Due.is("8 1/4 and a little below 0", "-1 0 0", () -> ways(n, 0, 1));
    }

    private static void promise9() {
        NanoSigns n = with(places(0, 0, 6, 4), places(0, 0, 25, 0, 2), places(-E, -E, E, E), places(E, E, R, 0, 0),
            places(3, 3, 3, 9), places(1, 1, 2, 3, 3), places(0, 0, 50, 1, 3), places(2, 1, 8, 1));
        Due.is("9 first", true, () -> n.on(0, 0, 0));
        Due.is("9 last", true, () -> n.on(0, 6, 4));
        Due.is("9 middle", true, () -> n.on(0, 3, 2));
        Due.is("9 beside", false, () -> n.on(0, 3, 3));
        Due.is("9 behind", false, () -> n.on(0, 9, 6));
        Due.is("9 before", false, () -> n.on(0, -3, -2));
        Due.is("9 level", "true true false false", () -> n.on(7, 2, 1) + " " + n.on(7, 8, 1) + " " + n.on(7, 1, 1)
            + " " + n.on(7, 9, 1));
        Due.is("9 upright", true, () -> n.on(4, 3, 5));
        Due.is("9 above it", false, () -> n.on(4, 3, 10));
        Due.is("9 below it", false, () -> n.on(4, 3, 2));
        Due.is("9 wide", true, () -> n.on(2, E - 1, E - 1));
        Due.is("9 wide, beside", false, () -> n.on(2, E, E - 1));
        Due.is("9 arc", true, () -> n.on(1, 3, 4));
        Due.is("9 from", true, () -> n.on(1, 5, 0));
        Due.is("9 to", true, () -> n.on(1, 0, 5));
        Due.is("9 behind to", false, () -> n.on(1, -3, 4));
        Due.is("9 before from", false, () -> n.on(1, 4, -3));
        Due.is("9 inside", false, () -> n.on(1, 3, 3));
        Due.is("9 centre", false, () -> n.on(1, 0, 0));
        Due.is("9 diagonals", "true true false true false", () -> n.on(6, 5, 5) + " " + n.on(6, -5, 5) + " "
            + n.on(6, 5, -5) + " " + n.on(6, 1, 7) + " " + n.on(6, 7, 1));
        Due.is("9 all directions", true, () -> n.on(5, 0, 0) && n.on(5, 2, 0) && n.on(5, 2, 2) && n.on(5, 0, 2));
        Due.is("9 wide arc", true, () -> n.on(3, E - (1L << 31), E));
        Due.is("9 r is not 2^64 more", false, () -> n.on(1, 1L << 32, 5));
        Due.is("9 far", false, () -> n.on(3, -E, -E));
        Due.fails("9 shape -1", IOOBE, () -> n.on(-1, 0, 0));
        Due.fails("9 shape 8", IOOBE, () -> n.on(8, 0, 0));
        Due.fails("9 x", IAE, () -> n.on(0, E + 1, 0));
        Due.fails("9 y", IAE, () -> n.on(1, 0, -E - 1));
        Due.fails("9 y least", IAE, () -> n.on(1, 0, Long.MIN_VALUE));
        Due.fails("9 both", IOOBE, () -> n.on(8, E + 1, 0));
    }

    private static void promise10() {
        NanoSigns n = new NanoSigns();
        long max = Long.MAX_VALUE;
        long min = Long.MIN_VALUE;
        Due.is("10 whole", "3 3 3", () -> over(6, 2));
        Due.is("10 halves", "3 4 4", () -> over(7, 2));
        Due.is("10 halves below 0", "-4 -3 -3", () -> over(-7, 2));
        Due.is("10 halves by below 0", "-4 -3 -3", () -> over(7, -2));
        Due.is("10 both below 0", "3 4 4", () -> over(-7, -2));
        Due.is("10 less than a half", "2 3 2", () -> over(7, 3));
        Due.is("10 more than a half", "2 3 3", () -> over(8, 3));
        Due.is("10 less than a half, both below 0", "2 3 2", () -> over(-7, -3));
        Due.is("10 more than a half below 0", "-3 -2 -2", () -> over(-7, 3));
        Due.is("10 less than a half below 0", "-3 -2 -3", () -> over(8, -3));
        Due.is("10 0", "0 0 0", () -> over(0, -9));
        Due.is("10 least by -1", min + " " + min + " " + min, () -> over(min, -1));
        Due.is("10 largest by -1", -max + " " + -max + " " + -max, () -> over(max, -1));
        Due.is("10 least by 1", min + " " + min + " " + min, () -> over(min, 1));
        Due.is("10 largest by least", "-1 0 -1", () -> over(max, min));
        Due.is("10 least by largest", "-2 -1 -1", () -> over(min, max));
        Due.is("10 largest by 2", (max / 2) + " " + (max / 2 + 1) + " " + (max / 2 + 1), () -> over(max, 2));
        Due.is("10 one by least", "-1 0 0", () -> over(1, min));
        Due.is("10 half of least", "0 1 1", () -> over(min / 2, min));
        Due.is("10 half of least and one", "0 1 0", () -> over(min / 2 + 1, min));
        Due.is("10 half of largest", "0 1 0", () -> over(max / 2, max));
        Due.is("10 half of largest and one", "0 1 1", () -> over(max / 2 + 1, max));
        for (int how = 0; how < 3; how++) {
            int h = how;
            Due.fails("10 by 0", AE, () -> n.over(1, 0, h));
        }
        Due.fails("10 0 by 0", AE, () -> n.over(0, 0, 0));
        Due.fails("10 by 0, no way", AE, () -> n.over(1, 0, 3));
        Due.fails("10 no way 3", IOOBE, () -> n.over(6, 2, 3));
        Due.fails("10 no way -1", IOOBE, () -> n.over(7, 2, -1));
        Due.fails("10 no way, least by -1", IOOBE, () -> n.over(min, -1, 3));
    }

    private static void promise11() {
        NanoSigns n = new NanoSigns();
        Due.is("11 0", "0 0 0", () -> root(0));
        Due.is("11 1", "1 1 1", () -> root(1));
        Due.is("11 2", "1 2 1", () -> root(2));
        Due.is("11 3", "1 2 2", () -> root(3));
        Due.is("11 6", "2 3 2", () -> root(6));
        Due.is("11 7", "2 3 3", () -> root(7));
        for (long s : new long[] {1000, 65536, 46341, 1L << 31, (1L << 31) + 1, 3037000499L}) {
            Due.is("11 square of " + s, s + " " + s + " " + s, () -> root(s * s));
            Due.is("11 one less, " + s, (s - 1) + " " + s + " " + s, () -> root(s * s - 1));
            Due.is("11 one more, " + s, s + " " + (s + 1) + " " + s, () -> root(s * s + 1));
            Due.is("11 below the half, " + s, s + " " + (s + 1) + " " + s, () -> root(s * s + s));
            Due.is("11 above the half, " + s, s + " " + (s + 1) + " " + (s + 1), () -> root(s * s + s + 1));
        }
        Due.is("11 largest", "3037000499 3037000500 3037000500", () -> root(Long.MAX_VALUE));
        Due.fails("11 below 0", IAE, () -> n.root(-1, 2));
        Due.fails("11 least", IAE, () -> n.root(Long.MIN_VALUE, 0));
        Due.fails("11 no way", IOOBE, () -> n.root(4, 3));
        Due.fails("11 no way -1", IOOBE, () -> n.root(4, -1));
        Due.fails("11 no way, below 0", IOOBE, () -> n.root(-1, -1));
    }

    private static void promise12() {
        NanoSigns n = new NanoSigns();
        for (int i = 0; i < 200; i++) {
            int at = i;
            Due.is("12 corner " + i, true, () -> n.corner(at % 2 == 0 ? E : -E, at));
        }
        BigInteger before = area(n);
        Due.is("12 full", false, () -> n.corner(0, 0));
        Due.is("12 a corner too many changes nothing", before, () -> area(n));
        Due.fails("12 full, x", IAE, () -> n.corner(E + 1, 0));
        Due.fails("12 full, y", IAE, () -> n.corner(0, -E - 1));
        NanoSigns o = new NanoSigns();
        Due.fails("12 x", IAE, () -> o.corner(-E - 1, 0));
        Due.fails("12 y", IAE, () -> o.corner(0, E + 1));
        Due.fails("12 y far", IAE, () -> o.corner(0, Long.MAX_VALUE));
        Due.is("12 shapes are no corners", 0, () -> o.segment(0, 0, 1, 1));
        Due.is("12 ordinary", true, () -> o.corner(5, 5) && o.corner(7, 5) && o.corner(5, 8));
        Due.is("12 what was wrong is no corner", 6, () -> area(o));
    }

    private static void promise13() {
        Due.is("13 left", 16, () -> area(polygon(1, 0, 0, 4, 0, 4, 4)));
        Due.is("13 right", -16, () -> area(polygon(1, 0, 0, 4, 4, 4, 0)));
        Due.is("13 away from 0", 1, () -> area(polygon(1, 100, 100, 101, 100, 100, 101)));
        Due.is("13 twice round", 32, () -> area(polygon(2, 0, 0, 4, 0, 4, 4)));
        Due.is("13 an eight", 0, () -> area(polygon(1, 0, 0, 2, 2, 2, 0, 0, 2)));
        Due.is("13 no corner", 0, () -> area(polygon(0)));
        Due.is("13 one corner", 0, () -> area(polygon(1, 5, 9)));
        Due.is("13 two corners", 0, () -> area(polygon(1, 5, 9, -7, 3)));
        Due.is("13 on a line", 0, () -> area(polygon(1, 5, 9, 6, 11, 8, 15)));
        BigInteger most = BigInteger.valueOf(2 * E).pow(2).multiply(BigInteger.valueOf(100));
        Due.is("13 most", most, () -> area(polygon(50, -E, -E, E, -E, E, E, -E, E)));
        Due.is("13 least", most.negate(), () -> area(polygon(50, -E, E, E, E, E, -E, -E, -E)));
        NanoSigns n = polygon(1, 0, 0, 0, 1, 1, 0);
        for (int limb = 0; limb < 4; limb++) {
            int l = limb;
            Due.is("13 limb " + l + " of -1", 0xFFFFFFFFL, () -> n.area(l));
        }
        Due.fails("13 limb 4", IOOBE, () -> n.area(4));
        Due.fails("13 limb -1", IOOBE, () -> n.area(-1));
        Due.fails("13 limb far", IOOBE, () -> n.area(Integer.MAX_VALUE));
        Due.is("13 asked, it goes on", true, () -> n.corner(5, 5));
        Due.is("13 one more corner", 4, () -> area(n));
    }

    private static void promise14() {
        NanoSigns n = with(places(0, 0, 4, 4), places(0, 4, 4, 0));
        n.corner(0, 0);
        n.corner(4, 0);
        n.corner(4, 4);
        n.cross(0, 1);
        n.clear();
        Due.fails("14 nothing is crossed", ISE, () -> n.at(0, 0, 0));
        Due.fails("14 no shapes", IOOBE, () -> n.on(0, 0, 0));
        Due.fails("14 no shapes to cross", IOOBE, () -> n.cross(0, 1));
        Due.is("14 no corners", 0, () -> area(n));
        Due.is("14 shapes begin again", 0, () -> n.arc(0, 0, 25, 0, 0));
        Due.is("14 the new shape", true, () -> n.on(0, 5, 0));
        Due.fails("14 only one shape", IOOBE, () -> n.on(1, 0, 4));
        n.corner(1, 1);
        n.corner(2, 1);
        Due.is("14 two new corners", 0, () -> area(n));
        n.corner(1, 2);
        Due.is("14 corners begin again", 1, () -> area(n));
        for (int i = 0; i < 199; i++) {
            n.segment(0, 0, 1, 1);
            n.corner(0, 0);
        }
        Due.is("14 full", "-1 false", () -> n.segment(0, 0, 1, 1) + " " + n.corner(0, 0));
        n.clear();
        n.clear();
        Due.is("14 room again", "0 true", () -> n.segment(0, 0, 1, 1) + " " + n.corner(0, 0));
    }
}
