import java.math.BigInteger;

/**
 * 'What it is' and 'Terms' of the document: each sentence that names an edge has a method of its own,
 * and the sentence stands above it.
 */
public final class TermsEdgesTest extends Asking {
    private static final long[] COORDINATES = {E, -E, E - 1, 1 - E, 0, 1, -1};
    private static final long[] NO_COORDINATES = {E + 1, -E - 1, 2 * E, -2 * E, 3 * E, E + (1L << 32),
        Long.MAX_VALUE, Long.MIN_VALUE, Long.MIN_VALUE + 1};
    private static final int[] NO_DIRECTIONS = {-1, 8, -8, 16, Integer.MAX_VALUE, Integer.MIN_VALUE};

    /**
     * Places on the circles of 25 and of 50 round (0, 0), each with its sixteenth of the turn: 2k is
     * direction k, 2k + 1 lies between it and the next one.
     */
    private static final int[][] ROUND = {{5, 0, 0}, {4, 3, 1}, {7, 1, 1}, {5, 5, 2}, {3, 4, 3}, {1, 7, 3},
        {0, 5, 4}, {-3, 4, 5}, {-1, 7, 5}, {-5, 5, 6}, {-4, 3, 7}, {-7, 1, 7}, {-5, 0, 8}, {-4, -3, 9},
        {-7, -1, 9}, {-5, -5, 10}, {-3, -4, 11}, {-1, -7, 11}, {0, -5, 12}, {3, -4, 13}, {1, -7, 13},
        {5, -5, 14}, {4, -3, 15}, {7, -1, 15}};

    interface OfLong {
        Object answer(long v);
    }

    private TermsEdgesTest() {
    }

    public static void main(String[] args) {
        the512thCall();
        coordinatesOfTurn();
        coordinatesOfShapes();
        coordinatesOfOnAndCorner();
        shapesAreNumbered();
        unlikePlaces();
        endsOfSegments();
        leastAndLargestR();
        distanceIsNoRest();
        directionsAre0To7();
        fromAndToBelong();
        toIsFrom();
        behindTheEnds();
        noneOneOrTwo();
        segmentsOnOneLine();
        nearlyOnOneLine();
        arcsWithOneCentre();
        orderOnSegments();
        orderOfArcs();
        orderWithOnePointLeft();
        onePointLeftOfEachWay();
        turnOnTheirLine();
        turnByTheLeast();
        limbsLowestFirst();
        limbsBelow0();
        roundedWhole();
        roundedHalves();
        roundedBesideHalves();
        roundedBesideWhole();
        Due.end();
    }

    /** 'An object is used for at most 512 calls': so the 512th one still answers. */
    private static void the512thCall() {
        NanoSigns n = new NanoSigns();
        for (int i = 0; i < 200; i++) {
            int k = i;
            Due.is("512 segment " + k, k, () -> k < 199 ? n.segment(0, k, 10, k) : n.segment(5, -5, 5, 500));
            Due.is("512 corner " + k, true, () -> n.corner(k, k * k));
        }
        for (int i = 0; i < 56; i++) {
            int k = 143 + i;
            Due.is("512 cross " + k, 1, () -> n.cross(k, 199));
            Due.is("512 at " + k, k, () -> n.at(0, 1, 0));
        }
    }

    private static void coordinates(String what, Object due, OfLong call) {
        for (long v : COORDINATES) {
            Due.is(what + " " + v, due, () -> call.answer(v));
        }
        for (long v : NO_COORDINATES) {
            Due.fails(what + " " + v, IAE, () -> call.answer(v));
        }
    }

    /** 'COORDINATES are -2^40 .. 2^40; a PLACE has two, x and y.' */
    private static void coordinatesOfTurn() {
        coordinates("turn ax", 0, v -> new NanoSigns().turn(v, 3, 7, 7, 7, 7));
        coordinates("turn ay", 0, v -> new NanoSigns().turn(3, v, 7, 7, 7, 7));
        coordinates("turn bx", 0, v -> new NanoSigns().turn(7, 7, v, 3, 7, 7));
        coordinates("turn by", 0, v -> new NanoSigns().turn(7, 7, 3, v, 7, 7));
        coordinates("turn cx", 0, v -> new NanoSigns().turn(7, 7, 7, 7, v, 3));
        coordinates("turn cy", 0, v -> new NanoSigns().turn(7, 7, 7, 7, 3, v));
    }

    /** 'COORDINATES are -2^40 .. 2^40; a PLACE has two, x and y.' */
    private static void coordinatesOfShapes() {
        coordinates("segment ax", 0, v -> new NanoSigns().segment(v, 3, 7, 7));
        coordinates("segment ay", 0, v -> new NanoSigns().segment(3, v, 7, 7));
        coordinates("segment bx", 0, v -> new NanoSigns().segment(7, 7, v, 3));
        coordinates("segment by", 0, v -> new NanoSigns().segment(7, 7, 3, v));
        coordinates("arc cx", 0, v -> new NanoSigns().arc(v, 3, 7, 7, 7));
        coordinates("arc cy", 0, v -> new NanoSigns().arc(3, v, 7, 7, 7));
    }

    /** 'COORDINATES are -2^40 .. 2^40; a PLACE has two, x and y.' */
    private static void coordinatesOfOnAndCorner() {
        long[][] shapes = {places(-7, 5, 9, 5), places(3, 3, 7, 0, 2)};
        for (long[] shape : shapes) {
            coordinates("on x", false, v -> with(shape).on(0, v, 7));
            coordinates("on y", false, v -> with(shape).on(0, 700, v));
        }
        coordinates("corner x", true, v -> new NanoSigns().corner(v, 3));
        coordinates("corner y", true, v -> new NanoSigns().corner(3, v));
    }

    /** 'SHAPES are numbered 0, 1, .., at most 200': segments and arcs in one row. */
    private static void shapesAreNumbered() {
        NanoSigns n = new NanoSigns();
        for (int i = 0; i < 200; i++) {
            int k = i;
            Due.is("number " + k, k, () -> k % 3 == 0 ? n.arc(k, 0, 4, 0, 0) : n.segment(k, 0, k, 9));
        }
        for (int i = 0; i < 200; i++) {
            int k = i;
            Due.is("shape " + k + " is its own", true, () -> n.on(k, k, 2));
        }
        Due.fails("no shape 200", IOOBE, () -> n.on(200, 200, 2));
        Due.is("no 201st shape", -1, () -> n.segment(1, 1, 2, 2));
        Due.fails("still no shape 200", IOOBE, () -> n.on(200, 1, 1));
    }

    /** 'a SEGMENT, all points between two unlike places': unlike in one coordinate, by 1, is enough. */
    private static void unlikePlaces() {
        Due.is("unlike in x", 0, () -> new NanoSigns().segment(E, E, E - 1, E));
        Due.is("unlike in y", 0, () -> new NanoSigns().segment(-E, -E, -E, 1 - E));
        Due.is("the coordinates change places", 0, () -> new NanoSigns().segment(3, 4, 4, 3));
        Due.is("opposite", 0, () -> new NanoSigns().segment(E, -E, -E, E));
        Due.is("unlike by 2^32", 0, () -> new NanoSigns().segment(5, 5, 5 + (1L << 32), 5));
        Due.fails("the same", IAE, () -> new NanoSigns().segment(E, -E, E, -E));
        Due.fails("the same 0", IAE, () -> new NanoSigns().segment(0, 0, 0, 0));
    }

    /** 'all points between two unlike places, and these': its ends belong to it, what lies behind does not. */
    private static void endsOfSegments() {
        // behind the two places: the way from one of the segment's places to the next one
        long[][] all = {{-6, -3, 6, 3, 2, 1}, {6, 3, -6, -3, -2, -1}, {-4, 9, 4, 9, 1, 0}, {7, 8, 7, -8, 0, -1},
            {-2, 4, 2, -4, 1, -2}, {1 - E, 1 - E, E - 1, E - 1, 1, 1}, {1 - E, E - 1, E - 1, 1 - E, 1, -1}};
        for (long[] s : all) {
            NanoSigns n = with(places(s[0], s[1], s[2], s[3]));
            Due.is("its first place", true, () -> n.on(0, s[0], s[1]));
            Due.is("its last place", true, () -> n.on(0, s[2], s[3]));
            Due.is("behind its first place", true, () -> n.on(0, s[0] + s[4], s[1] + s[5]));
            Due.is("before its last place", true, () -> n.on(0, s[2] - s[4], s[3] - s[5]));
            Due.is("before its first place", false, () -> n.on(0, s[0] - s[4], s[1] - s[5]));
            Due.is("behind its last place", false, () -> n.on(0, s[2] + s[4], s[3] + s[5]));
            Due.is("beside it", false, () -> n.on(0, s[0] + s[4] + s[5], s[1] + s[5] - s[4]));
        }
    }

    /** 'squared is r (1 .. 2^62)' */
    private static void leastAndLargestR() {
        Due.is("r 1", true, () -> with(places(0, 0, 1, 0, 0)).on(0, 0, -1));
        Due.is("r 2^62", true, () -> with(places(0, 0, R, 0, 0)).on(0, 1L << 31, 0));
        Due.is("r 2^62 - 1", 0, () -> new NanoSigns().arc(0, 0, R - 1, 0, 0));
        Due.is("r 2", true, () -> with(places(0, 0, 2, 0, 0)).on(0, -1, 1));
        long[] wrong = {0, -1, -25, R + 1, 2 * (R - 1) + 1, Long.MAX_VALUE, Long.MIN_VALUE};
        for (long r : wrong) {
            Due.fails("r " + r, IAE, () -> new NanoSigns().arc(0, 0, r, 0, 0));
        }
    }

    /** 'the points whose distance from a place, its CENTRE, squared is r': and not r and 2^64. */
    private static void distanceIsNoRest() {
        long far = 1L << 32;
        NanoSigns n = with(places(0, 0, 25, 0, 0), places(0, 0, R, 0, 0), places(far, 0, far, 9));
        Due.is("2^64 more", false, () -> n.on(0, far, 5));
        Due.is("2^65 more", false, () -> n.on(1, far, far));
        Due.is("2^82 and 25", false, () -> n.on(0, E, 5));
        Due.is("no crossing out there", 0, () -> n.cross(0, 2));
        Due.is("one more", false, () -> n.on(1, 1L << 31, 1));
        Due.is("one less", false, () -> n.on(0, 4, 2));
        Due.is("its centre", false, () -> n.on(0, 0, 0));
    }

    /** 'DIRECTIONS 0 .. 7' */
    private static void directionsAre0To7() {
        for (int i = 0; i < 8; i++) {
            int k = i;
            Due.is("from " + k, 0, () -> new NanoSigns().arc(0, 0, 1, k, 3));
            Due.is("to " + k, 0, () -> new NanoSigns().arc(0, 0, 1, 3, k));
        }
        for (int k : NO_DIRECTIONS) {
            Due.fails("from " + k, IAE, () -> new NanoSigns().arc(0, 0, 1, k, 3));
            Due.fails("to " + k, IAE, () -> new NanoSigns().arc(0, 0, 1, 3, k));
            Due.fails("both " + k, IAE, () -> new NanoSigns().arc(0, 0, 1, k, k));
        }
    }

    /** 'from FROM one goes on in this turn, over all directions between them, to TO, both belonging to it' */
    private static void fromAndToBelong() {
        for (int from = 0; from < 8; from++) {
            for (int to = 0; to < 8; to++) {
                if (from != to) {
                    lookRound(from, to, gone(from, to));
                }
            }
        }
    }

    private static boolean[] gone(int from, int to) {
        boolean[] has = new boolean[16];
        for (int at = 2 * from; at != 2 * to; at = (at + 1) % 16) {
            has[at] = true;
        }
        has[2 * to] = true;
        return has;
    }

    /** 'if TO is FROM, all directions do' */
    private static void toIsFrom() {
        boolean[] all = new boolean[16];
        java.util.Arrays.fill(all, true);
        for (int k = 0; k < 8; k++) {
            lookRound(k, k, all);
        }
    }

    /** Asks for each place of the arc by on, by a segment through it, and by circles that touch there. */
    private static void lookRound(int from, int to, boolean[] has) {
        NanoSigns n = with(places(2, -3, 25, from, to), places(2, -3, 50, from, to));
        for (int[] p : ROUND) {
            int r = p[0] * p[0] + p[1] * p[1];
            int arc = r == 25 ? 0 : 1;
            int due = has[p[2]] ? 1 : 0;
            String what = "arc " + from + " to " + to + ", place " + p[0] + " " + p[1];
            int through = n.segment(2, -3, 2 + 3 * p[0], 3 * p[1] - 3);
            int touching = n.arc(2 + 2 * p[0], 2 * p[1] - 3, r, 0, 0);
            Due.is(what + ", on", has[p[2]], () -> n.on(arc, 2 + p[0], p[1] - 3));
            Due.is(what + ", segment", due, () -> n.cross(arc, through));
            Due.is(what + ", circle", due, () -> n.cross(arc, touching));
            Due.is(what + ", circle first", due, () -> n.cross(touching, arc));
            int outside = n.arc(2 - p[0], -3 - p[1], 4 * r, 0, 0);
            Due.is(what + ", circle outside", due, () -> n.cross(arc, outside));
            Due.is(what + ", circle outside, first", due, () -> n.cross(outside, arc));
        }
    }

    /** 'the points that both have': lines that cross behind an end of either segment don't count. */
    private static void behindTheEnds() {
        long[] level = places(-4, 0, 4, 0);
        long[] slanted = places(4, 2, -4, -2);
        for (long[] s : new long[][] {level, slanted}) {
            for (int back = 0; back < 2; back++) {
                long[] t = back == 0 ? s : places(s[2], s[3], s[0], s[1]);
                long y = s[3] == 0 ? 0 : 1;
                Due.is("at an end", 1, () -> with(t, places(4, 2 * y - 9, 4, 2 * y + 9)).cross(0, 1));
                Due.is("behind the end", 0, () -> with(t, places(5, -9, 5, 9)).cross(0, 1));
                Due.is("at the other end", 1, () -> with(t, places(-4, -9, -4, 9)).cross(0, 1));
                Due.is("behind the other end", 0, () -> with(t, places(-5, -9, -5, 9)).cross(0, 1));
                Due.is("the second one ends there", 1, () -> with(t, places(2, 9, 2, y)).cross(0, 1));
                Due.is("the second one ends before", 0, () -> with(t, places(2, 9, 2, y + 1)).cross(0, 1));
                Due.is("the second one begins there", 1, () -> with(t, places(2, y, 2, 9)).cross(0, 1));
                Due.is("the second one begins behind", 0, () -> with(t, places(2, y + 1, 2, 9)).cross(0, 1));
            }
        }
    }

    /** 'There are none, one or two' */
    private static void noneOneOrTwo() {
        long[] circle = places(0, 0, 25, 0, 0);
        Due.is("segments, none by one", "0", () -> met(places(0, 0, 9, 0), places(4, 1, 5, 9)));
        Due.is("segments, one end", "1: 4 0", () -> met(places(0, 0, 9, 0), places(4, 0, 5, 9)));
        Due.is("segment and arc, none", "0", () -> met(places(-9, 6, 9, 6), circle));
        Due.is("all but touching", "0", () -> met(places(-E, 5, E, 6), circle));
        Due.is("segment and arc, one", "1: 0 5", () -> met(places(-E, 5, E, 5), circle));
        Due.is("segment and arc, two near each other", "2: 0 5, 0..1 4..5", () -> met(places(0, 5, E, 4), circle));
        Due.is("segment and arc, two", "2: -5 0, 5 0", () -> met(places(-5, 0, 5, 0), circle));
        Due.is("the second end is too short", "1: -5 0", () -> met(places(-5, 0, 4, 0), circle));
        Due.is("both ends are too short", "0", () -> met(places(-4, 0, 4, 0), circle));
        Due.is("arcs, none outside", "0", () -> met(circle, places(10, 0, 24, 0, 0)));
        Due.is("arcs, one outside", "1: 5 0", () -> met(circle, places(10, 0, 25, 0, 0)));
        Due.is("arcs, two outside", "2: 4..5 0..1, 4..5 -1..0", () -> met(circle, places(10, 0, 26, 0, 0)));
        Due.is("arcs, none inside", "0", () -> met(circle, places(2, 0, 8, 0, 0)));
        Due.is("arcs, one inside", "1: 5 0", () -> met(circle, places(2, 0, 9, 0, 0)));
        Due.is("arcs, two inside", "2: 4..5 1..2, 4..5 -2..-1", () -> met(circle, places(2, 0, 10, 0, 0)));
    }

    /** 'but for segments on one line with more than one point in common .. these CAN'T be crossed' */
    private static void segmentsOnOneLine() {
        long[][] ways = {{1, 0}, {0, 1}, {1, 1}, {-1, 1}, {3, -2}, {1L << 36, 1}, {-(1L << 36), -(1L << 36)}};
        for (long[] w : ways) {
            Due.is("on one line, apart", "0", () -> met(piece(w, 0, 4), piece(w, 5, 9)));
            Due.is("on one line, apart, back", "0", () -> met(piece(w, 9, 5), piece(w, 0, 4)));
            String end = "1: " + (7 + 4 * w[0]) + " " + (4 * w[1] - 7);
            Due.is("on one line, one point", end, () -> met(piece(w, 0, 4), piece(w, 4, 9)));
            Due.is("on one line, one point, ends", end, () -> met(piece(w, 0, 4), piece(w, 9, 4)));
            Due.is("on one line, one point, starts", end, () -> met(piece(w, 4, 0), piece(w, 4, 9)));
            Due.is("on one line, one point, back", end, () -> met(piece(w, 4, 9), piece(w, 4, 0)));
            Due.fails("on one line, over each other", IAE, () -> met(piece(w, 0, 5), piece(w, 4, 9)));
            Due.fails("on one line, over each other, back", IAE, () -> met(piece(w, 9, 4), piece(w, 0, 5)));
            Due.fails("on one line, inside", IAE, () -> met(piece(w, 0, 9), piece(w, 4, 5)));
            Due.fails("on one line, outside", IAE, () -> met(piece(w, 4, 5), piece(w, 9, 0)));
            Due.fails("on one line, from one end", IAE, () -> met(piece(w, 0, 9), piece(w, 0, 1)));
            Due.fails("the same", IAE, () -> met(piece(w, 0, 9), piece(w, 0, 9)));
            Due.fails("the same, back", IAE, () -> met(piece(w, 0, 9), piece(w, 9, 0)));
            Due.fails("itself", IAE, () -> with(piece(w, 0, 9)).cross(0, 0));
        }
    }

    private static long[] piece(long[] way, int from, int to) {
        return places(7 + from * way[0], from * way[1] - 7, 7 + to * way[0], to * way[1] - 7);
    }

    /** 'segments on one line': not those that are so but for one nanometre. */
    private static void nearlyOnOneLine() {
        Due.is("side by side", "0", () -> met(places(0, 0, 9, 0), places(3, 1, 6, 1)));
        Due.is("turned by the least", "1: 0 0", () -> met(places(-E, -E, E, E), places(1 - E, -E, E - 1, E)));
        Due.is("turned at one end", "1: " + -E + " 7", () -> met(places(-E, 7, E, 7), places(-E, 7, E, 8)));
        Due.is("one end beside", "1: " + E + " " + E, () -> met(places(-E, -E, E, E), places(1 - E, -E, E, E)));
    }

    /** 'and for arcs with the same centre and r: these CAN'T be crossed' */
    private static void arcsWithOneCentre() {
        for (long r : new long[] {1, 25, R}) {
            Due.fails("one circle, r " + r, IAE, () -> met(places(3, 4, r, 0, 0), places(3, 4, r, 5, 5)));
            Due.fails("no direction in common", IAE, () -> met(places(3, 4, r, 0, 1), places(3, 4, r, 4, 5)));
            Due.fails("one direction in common", IAE, () -> met(places(3, 4, r, 0, 2), places(3, 4, r, 2, 5)));
            Due.fails("itself", IAE, () -> with(places(3, 4, r, 0, 2)).cross(0, 0));
            long other = r == R ? r - 1 : r + 1;
            Due.is("another r", "0", () -> met(places(3, 4, r, 0, 0), places(3, 4, other, 0, 0)));
        }
        Due.is("another x", "2: 3 4, 3 -4", () -> met(places(0, 0, 25, 0, 0), places(6, 0, 25, 0, 0)));
        Due.is("another y", "2: -4 3, 4 3", () -> met(places(0, 0, 25, 0, 0), places(0, 6, 25, 0, 0)));
    }

    /** 'if one shape is a segment, by their distance from its first place' */
    private static void orderOnSegments() {
        for (int[] p : ROUND) {
            long x = p[0];
            long y = p[1];
            long[] circle = places(1, 2, x * x + y * y, 0, 0);
            String due = "2: " + (1 - x) + " " + (2 - y) + ", " + (1 + x) + " " + (2 + y);
            Due.is("segment first", due, () -> met(places(1 - 3 * x, 2 - 3 * y, 1 + 2 * x, 2 + 2 * y), circle));
            Due.is("arc first", due, () -> met(circle, places(1 - x, 2 - y, 1 + x, 2 + y)));
        }
    }

    /** 'if both are arcs, first the one on the left of the way from the centre of the first shape to that of the second one' */
    private static void orderOfArcs() {
        for (int[] p : ROUND) {
            long x = p[0];
            long y = p[1];
            // turned by a quarter to the left, (x, y) is (-y, x)
            String due = "2: " + (x - y) + " " + (y + x) + ", " + (x + y) + " " + (y - x);
            long r = 2 * (x * x + y * y);
            String reverse = "2: " + (x + y) + " " + (y - x) + ", " + (x - y) + " " + (y + x);
            NanoSigns n = with(places(0, 0, r, 0, 0), places(2 * x, 2 * y, r, 0, 0));
            Due.is("left of the way there", due, () -> met(n, 0, 1));
            Due.is("left of the way back", reverse, () -> met(n, 1, 0));
            // both points lie before the first centre, seen from the second one
            String behind = "2: " + (-x - y) + " " + (x - y) + ", " + (y - x) + " " + (-y - x);
            Due.is("points before the way", behind,
                () -> met(places(0, 0, r, 0, 0), places(x, y, 5 * (x * x + y * y), 0, 0)));
        }
        long left = BigInteger.valueOf(3L << 60).sqrt().longValueExact();
        long mid = E - (1L << 30);
        Due.is("the widest, at the edge of all places", "2: " + mid + " " + (E - left - 1) + ".." + (E - left) + ", "
            + mid + " " + (E + left) + ".." + (E + left + 1),
            () -> met(places(E, E, R, 1, 7), places(E - (1L << 31), E, R, 5, 3)));
    }

    /** 'Two points are in order': where the arcs leave one of two, it is point 0. */
    private static void orderWithOnePointLeft() {
        Due.is("only the right one", "1: 3 -4", () -> met(places(0, 0, 25, 6, 0), places(6, 0, 25, 0, 0)));
        Due.is("only the left one", "1: 3 4", () -> met(places(0, 0, 25, 0, 2), places(6, 0, 25, 0, 0)));
        Due.is("only the right one, second", "1: 3 -4", () -> met(places(0, 0, 25, 0, 0), places(6, 0, 25, 4, 6)));
        Due.is("only the left one, second", "1: 3 4", () -> met(places(0, 0, 25, 0, 0), places(6, 0, 25, 2, 4)));
        Due.is("each has another one", "0", () -> met(places(0, 0, 25, 0, 2), places(6, 0, 25, 4, 6)));
        Due.is("only the far one", "1: 5 0", () -> met(places(-9, 0, 9, 0), places(0, 0, 25, 7, 1)));
        Due.is("only the near one", "1: -5 0", () -> met(places(-9, 0, 9, 0), places(0, 0, 25, 3, 5)));
        Due.is("only the far one by the end", "1: 5 0", () -> met(places(0, 0, 9, 0), places(0, 0, 25, 0, 0)));
    }

    /** 'Two points are in order': one of two is left to each side, whatever way the second centre lies. */
    private static void onePointLeftOfEachWay() {
        int[][] directions = {{1, 0}, {1, 1}, {0, 1}, {-1, 1}, {-1, 0}, {-1, -1}, {0, -1}, {1, -1}};
        for (int way = 0; way < 8; way++) {
            int k = way;
            long x = 5 * directions[k][0];
            long y = 5 * directions[k][1];
            long r = 2 * (x * x + y * y);
            String left = "1: " + (x - y) + " " + (y + x);
            String right = "1: " + (x + y) + " " + (y - x);
            // the left point lies in direction k + 1 from the first centre, in k + 3 from the second one
            long[] first = places(0, 0, r, 0, 0);
            long[] second = places(2 * x, 2 * y, r, 0, 0);
            Due.is("left of way " + k, left, () -> met(turned(first, k + 1, k + 2), second));
            Due.is("right of way " + k, right, () -> met(turned(first, k + 6, k + 7), second));
            Due.is("left of way " + k + ", second", left, () -> met(first, turned(second, k + 2, k + 3)));
            Due.is("right of way " + k + ", second", right, () -> met(first, turned(second, k + 5, k + 6)));
            Due.is("neither of way " + k, "0", () -> met(turned(first, k + 2, k + 6), second));
            Due.is("neither of way " + k + ", second", "0", () -> met(first, turned(second, k + 6, k + 2)));
        }
    }

    private static long[] turned(long[] arc, int from, int to) {
        return places(arc[0], arc[1], arc[2], from % 8, to % 8);
    }

    /** 'then TURN is 1, to the RIGHT -1, 0 on their line': before, between and behind, and in one place. */
    private static void turnOnTheirLine() {
        NanoSigns n = new NanoSigns();
        Due.is("left, right", "1 -1", () -> n.turn(0, 0, 1, 0, 0, 1) + " " + n.turn(0, 0, 1, 0, 0, -1));
        Due.is("c before a", 0, () -> n.turn(3, 2, 6, 4, 0, 0));
        Due.is("c between", 0, () -> n.turn(0, 0, 6, 4, 3, 2));
        Due.is("c behind b", 0, () -> n.turn(0, 0, 3, 2, 6, 4));
        Due.is("a is b", 0, () -> n.turn(3, 2, 3, 2, 7, -7));
        Due.is("b is c", 0, () -> n.turn(7, -7, 3, 2, 3, 2));
        Due.is("a is c", 0, () -> n.turn(3, 2, 7, -7, 3, 2));
        Due.is("all are one", 0, () -> n.turn(-E, E, -E, E, -E, E));
        Due.is("the longest line", 0, () -> n.turn(-E, -E, E, E, 1, 1));
    }

    /** 'to the left .. to the right': by the least turn at the largest places. */
    private static void turnByTheLeast() {
        NanoSigns n = new NanoSigns();
        Due.is("by one to the left", 1, () -> n.turn(-E, -E, E, E, -1, 0));
        Due.is("by one to the right", -1, () -> n.turn(-E, -E, E, E, 0, -1));
        // 2E (2E - 2) against (2E - 1) (2E - 1): less by 1
        Due.is("an area of one half, right", -1, () -> n.turn(-E, -E, E, E - 1, E - 1, E - 2));
        Due.is("an area of one half, left", 1, () -> n.turn(-E, -E, E - 1, E - 2, E, E - 1));
        Due.is("the largest, left", 1, () -> n.turn(E, -E, E, E, -E, E));
        Due.is("the largest, right", -1, () -> n.turn(E, E, E, -E, -E, E));
    }

    private static String limbs(NanoSigns n) {
        return n.area(0) + " " + n.area(1) + " " + n.area(2) + " " + n.area(3);
    }

    /** 'LIMBS of a number are its digits in base 2^32, the lowest one first' */
    private static void limbsLowestFirst() {
        long f = 1L << 32;
        Due.is("2^32 - 1", (f - 1) + " 0 0 0", () -> limbs(polygon(1, 0, 0, f - 1, 0, 0, 1)));
        Due.is("2^32", "0 1 0 0", () -> limbs(polygon(1, 0, 0, f, 0, 0, 1)));
        Due.is("2^64 - 2^32", "0 " + (f - 1) + " 0 0", () -> limbs(polygon(1, 0, 0, f, 0, 0, f - 1)));
        Due.is("2^64", "0 0 1 0", () -> limbs(polygon(1, 0, 0, f, 0, 0, f)));
        Due.is("2^31", (f / 2) + " 0 0 0", () -> limbs(polygon(1, 0, 0, f / 2, 0, 0, 1)));
        NanoSigns n = with(places(0, 0, 9, 0), places(0, f + 1, 9, f + 1));
        Due.is("a distance", "1 2 1 0", () -> n.distance(0, 1, 0, 0) + " " + n.distance(0, 1, 0, 1) + " "
            + n.distance(0, 1, 0, 2) + " " + n.distance(0, 1, 0, 3));
    }

    /** 'of one below 0 they are those of it and 2^128' */
    private static void limbsBelow0() {
        long f = 1L << 32;
        String last = " " + (f - 1);
        Due.is("-1", (f - 1) + last + last + last, () -> limbs(polygon(1, 0, 0, 0, 1, 1, 0)));
        Due.is("-2^32", "0" + last + last + last, () -> limbs(polygon(1, 0, 0, 0, 1, f, 0)));
        Due.is("-2^32 - 1", (f - 1) + " " + (f - 2) + last + last, () -> limbs(polygon(1, 0, 0, 0, 1, f + 1, 0)));
        Due.is("-2^64", "0 0" + last + last, () -> limbs(polygon(1, 0, 0, 0, f, f, 0)));
        Due.is("-2^82", "0 0 " + (f - (1 << 18)) + last, () -> limbs(polygon(1, -E, -E, -E, E, E, -E)));
    }

    /** The x of the point where the level y is a / b of the way up along a segment of height b. */
    private static String atOver(long a, long b) {
        NanoSigns n = with(places(0, 0, a, b), places(-E, 1, E, 1));
        return n.cross(0, 1) + ": " + ways(n, 0, 0);
    }

    /** 'ROUNDED: 0 the greatest whole number not above, 1 the least not below': of a whole number itself. */
    private static void roundedWhole() {
        for (long v : new long[] {0, 1, -1, 7, -7, E / 3, -E / 3}) {
            Due.is("over, whole " + v, v + " " + v + " " + v, () -> over(3 * v, 3));
            Due.is("at, whole " + v, "1: " + v + " " + v + " " + v, () -> atOver(3 * v, 3));
        }
        Due.is("root, whole", "5 5 5", () -> root(25));
    }

    /** '2 the greatest not above it and 1/2': a half goes up, above and below 0. */
    private static void roundedHalves() {
        for (long v : new long[] {0, 1, -1, -2, 7, -7, E / 3, -E / 3}) {
            String due = v + " " + (v + 1) + " " + (v + 1);
            Due.is("over, half above " + v, due, () -> over(2 * v + 1, 2));
            Due.is("over, half above " + v + ", by below 0", due, () -> over(-2 * v - 1, -2));
            Due.is("at, half above " + v, "1: " + due, () -> atOver(2 * v + 1, 2));
        }
    }

    /** '2 the greatest not above it and 1/2': the least below a half goes down, the least above it up. */
    private static void roundedBesideHalves() {
        long b = E - 1;
        Due.is("over, below a half", "0 1 0", () -> over(b / 2, b));
        Due.is("over, above a half", "0 1 1", () -> over(b / 2 + 1, b));
        Due.is("over, below a half below 0", "-1 0 -1", () -> over(-b / 2 - 1, b));
        Due.is("over, above a half below 0", "-1 0 0", () -> over(-b / 2, b));
        Due.is("at, below a half", "1: 0 1 0", () -> atOver(b / 2, b));
        Due.is("at, above a half", "1: 0 1 1", () -> atOver(b / 2 + 1, b));
        Due.is("at, below a half below 0", "1: -1 0 -1", () -> atOver(-b / 2 - 1, b));
        Due.is("at, above a half below 0", "1: -1 0 0", () -> atOver(-b / 2, b));
    }

    /** 'the greatest whole number not above .. the least not below': one over the largest is not 0. */
    private static void roundedBesideWhole() {
        Due.is("over, the least above 0", "0 1 0", () -> over(1, Long.MAX_VALUE));
        Due.is("over, the least below 0", "-1 0 0", () -> over(-1, Long.MAX_VALUE));
        Due.is("at, the least above 0", "1: 0 1 0", () -> atOver(1, E));
        Due.is("at, the least below 0", "1: -1 0 0", () -> atOver(-1, E));
        Due.is("at, just not 7", "1: 6 7 7", () -> atOver(7 * (E / 8) - 1, E / 8));
        Due.is("at, just above 7", "1: 7 8 7", () -> atOver(7 * (E / 8) + 1, E / 8));
        NanoSigns n = with(places(-9, 0, 9, 0), places(0, -E, R, 0, 0), places(0, 0, R - 1, 0, 0),
            places(-E, 0, E, 0));
        Due.is("too far from the arc", 0, () -> n.cross(0, 1));
        Due.is("a root", 2, () -> n.cross(2, 3));
        Due.is("a root just not whole", "2147483647 2147483648 2147483648", () -> ways(n, 1, 0));
        Due.is("a root just not whole, below 0", "-2147483648 -2147483647 -2147483648", () -> ways(n, 0, 0));
    }
}
