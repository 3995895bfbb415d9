/**
 * Whole nanometres, exactly: which way a corner turns, how far segments are apart,
 * where segments and arcs cross, how numbers with roots compare.
 */
public final class NanoSigns {
    public static final int NONE = -1;

    private static final long REACH = 1L << 40;
    private static final long LARGEST_R = 1L << 62;
    private static final int MOST = 200;
    private static final int DIRECTIONS = 8;
    private static final int DISTANCE_LIMBS = 6;
    private static final int AREA_LIMBS = 4;
    private static final long LARGEST_ROOT = 3037000499L;

    private static final int DOWN = 0;
    private static final int UP = 1;
    private static final int NEAREST = 2;

    private final Shape[] shapes = new Shape[MOST];
    private int shapeCount;
    private final Polygon polygon = new Polygon();
    private final Roots roots = new Roots();
    private final Crossing crossing = new Crossing();
    private final Gap gap = new Gap();
    private final Rooted number = new Rooted();
    private final Whole work = new Whole();

    public NanoSigns() {
        shapeCount = 0;
    }

    public int turn(long ax, long ay, long bx, long by, long cx, long cy) throws IllegalArgumentException {
        if (!isPlace(ax, ay) || !isPlace(bx, by) || !isPlace(cx, cy)) {
            throw new IllegalArgumentException("no place");
        }
        work.setToCross(bx - ax, by - ay, cx - ax, cy - ay);
        return work.sign();
    }

    public int segment(long ax, long ay, long bx, long by) throws IllegalArgumentException {
        if (!isPlace(ax, ay) || !isPlace(bx, by)) {
            throw new IllegalArgumentException("no place");
        }
        if (ax == bx && ay == by) {
            throw new IllegalArgumentException("the places are the same");
        }
        return keep(new Segment(ax, ay, bx, by));
    }

    public int arc(long cx, long cy, long r, int from, int to) throws IllegalArgumentException {
        if (!isPlace(cx, cy)) {
            throw new IllegalArgumentException("no place");
        }
        if (r < 1 || r > LARGEST_R) {
            throw new IllegalArgumentException("no such r");
        }
        if (!isDirection(from) || !isDirection(to)) {
            throw new IllegalArgumentException("no such direction");
        }
        return keep(new Arc(cx, cy, r, from, to));
    }

    public long distance(int a, int b, int part, int limb)
            throws IndexOutOfBoundsException, IllegalArgumentException {
        Shape first = shapeOf(a);
        Shape second = shapeOf(b);
        if (first == null || second == null) {
            throw new IndexOutOfBoundsException("no such shape");
        }
        if (part < 0 || part > 1 || limb < 0 || limb >= DISTANCE_LIMBS) {
            throw new IndexOutOfBoundsException("no such part or limb");
        }
        if (first instanceof Segment s && second instanceof Segment t) {
            gap.measure(s, t);
            return part == 0 ? gap.above.limb(limb) : gap.below.limb(limb);
        }
        throw new IllegalArgumentException("one is an arc");
    }

    public int compare(long a, long b, long c, long d) throws IllegalArgumentException {
        if (c < 0) {
            throw new IllegalArgumentException("no root of what is below 0");
        }
        number.plain.setTo(a);
        number.plain.addProduct(d, -1);
        work.setTo(c);
        number.setRoot(b, work);
        return roots.sign(number);
    }

    public int cross(int a, int b) throws IndexOutOfBoundsException, IllegalArgumentException {
        crossing.forget();
        Shape first = shapeOf(a);
        Shape second = shapeOf(b);
        if (first == null || second == null) {
            throw new IndexOutOfBoundsException("no such shape");
        }
        if (first instanceof Segment s && second instanceof Segment t) {
            crossing.ofSegments(s, t);
        } else if (first instanceof Segment s && second instanceof Arc t) {
            crossing.ofSegmentAndArc(s, t);
        } else if (first instanceof Arc s && second instanceof Segment t) {
            crossing.ofSegmentAndArc(t, s);
        } else if (first instanceof Arc s && second instanceof Arc t) {
            crossing.ofArcs(s, t);
        }
        if (!crossing.made) {
            throw new IllegalArgumentException("these can't be crossed");
        }
        return crossing.count;
    }

    public long at(int k, int axis, int how) throws IllegalStateException, IndexOutOfBoundsException {
        if (!crossing.made) {
            throw new IllegalStateException("nothing is crossed");
        }
        if (k < 0 || k >= crossing.count) {
            throw new IndexOutOfBoundsException("no such point");
        }
        if (axis < 0 || axis > 1 || !isRounding(how)) {
            throw new IndexOutOfBoundsException("no such axis or way of rounding");
        }
        return crossing.coordinate(k, axis, how);
    }

    public boolean on(int shape, long x, long y) throws IndexOutOfBoundsException, IllegalArgumentException {
        Shape asked = shapeOf(shape);
        if (asked == null) {
            throw new IndexOutOfBoundsException("no such shape");
        }
        if (!isPlace(x, y)) {
            throw new IllegalArgumentException("no place");
        }
        return asked.holds(x, y, work);
    }

    public long over(long a, long b, int how) throws ArithmeticException, IndexOutOfBoundsException {
        if (b == 0) {
            throw new ArithmeticException("divided by 0");
        }
        if (!isRounding(how)) {
            throw new IndexOutOfBoundsException("no such way of rounding");
        }
        if (b == -1) {
            return -a;
        }
        long whole = Math.floorDiv(a, b);
        long rest = a - whole * b;
        if (rest == 0 || how == DOWN) {
            return whole;
        }
        // b less the rest, not twice the rest: that could leave the longs
        boolean half = b > 0 ? rest >= b - rest : rest <= b - rest;
        return how == UP || half ? whole + 1 : whole;
    }

    public long root(long v, int how) throws IndexOutOfBoundsException, IllegalArgumentException {
        if (!isRounding(how)) {
            throw new IndexOutOfBoundsException("no such way of rounding");
        }
        if (v < 0) {
            throw new IllegalArgumentException("no root of what is below 0");
        }
        long whole = wholeRoot(v);
        long rest = v - whole * whole;
        if (rest == 0 || how == DOWN) {
            return whole;
        }
        // (whole + 1/2) squared is whole * whole + whole + 1/4
        return how == UP || rest > whole ? whole + 1 : whole;
    }

    public boolean corner(long x, long y) throws IllegalArgumentException {
        if (!isPlace(x, y)) {
            throw new IllegalArgumentException("no place");
        }
        if (polygon.count >= MOST) {
            return false;
        }
        polygon.add(x, y);
        return true;
    }

    public long area(int limb) throws IndexOutOfBoundsException {
        if (limb < 0 || limb >= AREA_LIMBS) {
            throw new IndexOutOfBoundsException("no such limb");
        }
        polygon.measureTwice(work);
        return work.limb(limb);
    }

    public void clear() {
        shapeCount = 0;
        polygon.forget();
        crossing.forget();
    }

    private static boolean isPlace(long x, long y) {
        return x >= -REACH && x <= REACH && y >= -REACH && y <= REACH;
    }

    private static boolean isDirection(int direction) {
        return direction >= 0 && direction < DIRECTIONS;
    }

    private static boolean isRounding(int how) {
        return how == DOWN || how == UP || how == NEAREST;
    }

    private Shape shapeOf(int index) {
        return index >= 0 && index < shapeCount && index < shapes.length ? shapes[index] : null;
    }

    private int keep(Shape shape) {
        if (shapeCount < 0 || shapeCount >= shapes.length) {
            return NONE;
        }
        shapes[shapeCount] = shape;
        shapeCount++;
        return shapeCount - 1;
    }

    private static long wholeRoot(long v) {
        long found = 0;
        for (int bit = 31; bit >= 0; bit--) {
            long next = found + (1L << bit);
            if (next <= LARGEST_ROOT && next * next <= v) {
                found = next;
            }
        }
        return found;
    }

    /**
     * A whole number of 256 bits, changed in place so that rows are made once and used again.
     * It is held as the document's limbs, a number below 0 as it and 2^256: so the limbs that the
     * document asks for are the lowest ones here. Every number of this class stays below 2^254.
     */
    private static final class Whole {
        private static final int SIZE = 8;
        private static final int LIMB_BITS = 32;
        private static final int LONG_BITS = 64;
        private static final long LOW = 0xFFFFFFFFL;

        private final long[] limbs = new long[SIZE];

        long limb(int index) {
            return index >= 0 && index < SIZE ? limbs[index] : 0;
        }

        int sign() {
            if (limbs[SIZE - 1] >>> (LIMB_BITS - 1) != 0) {
                return -1;
            }
            for (int i = 0; i < SIZE; i++) {
                if (limbs[i] != 0) {
                    return 1;
                }
            }
            return 0;
        }

        /** How this compares with another one; neither is below 0. */
        int against(Whole other) {
            for (int i = SIZE - 1; i >= 0; i--) {
                if (limbs[i] != other.limbs[i]) {
                    return limbs[i] < other.limbs[i] ? -1 : 1;
                }
            }
            return 0;
        }

        /** How many bits a number not below 0 has. */
        int bits() {
            for (int i = SIZE - 1; i >= 0; i--) {
                if (limbs[i] != 0) {
                    return LIMB_BITS * i + LONG_BITS - Long.numberOfLeadingZeros(limbs[i]);
                }
            }
            return 0;
        }

        void setTo(long value) {
            long rest = value;
            for (int i = 0; i < SIZE; i++) {
                limbs[i] = rest & LOW;
                rest >>= LIMB_BITS;
            }
        }

        void setTo(Whole other) {
            System.arraycopy(other.limbs, 0, limbs, 0, SIZE);
        }

        void setToCross(long ux, long uy, long vx, long vy) {
            setTo(0);
            addProduct(ux, vy);
            addProduct(-uy, vx);
        }

        void setToDot(long ux, long uy, long vx, long vy) {
            setTo(0);
            addProduct(ux, vx);
            addProduct(uy, vy);
        }

        /** Sets this, which is neither of them, to a times b. */
        void setToProduct(Whole a, Whole b) {
            setTo(0);
            for (int i = 0; i < SIZE; i++) {
                long limb = a.limbs[i];
                long carry = 0;
                for (int j = 0; limb != 0 && i + j < SIZE; j++) {
                    long sum = limb * b.limbs[j] + limbs[i + j] + carry;
                    limbs[i + j] = sum & LOW;
                    carry = sum >>> LIMB_BITS;
                }
            }
        }

        void addCross(long ux, long uy, long vx, long vy) {
            addProduct(ux, vy);
            addProduct(-uy, vx);
        }

        void addProduct(long a, long b) {
            long low = a * b;
            long high = highOfProduct(a, b);
            long carry = 0;
            for (int i = 0; i < SIZE; i++) {
                long sum = limbs[i] + (low & LOW) + carry;
                limbs[i] = sum & LOW;
                carry = sum >>> LIMB_BITS;
                low = (low >>> LIMB_BITS) | (high << LIMB_BITS);
                high >>= LIMB_BITS;
            }
        }

        private static long highOfProduct(long a, long b) {
            long aHigh = a >> LIMB_BITS;
            long aLow = a & LOW;
            long bHigh = b >> LIMB_BITS;
            long bLow = b & LOW;
            long one = aHigh * bLow + (aLow * bLow >>> LIMB_BITS);
            long two = aLow * bHigh + (one & LOW);
            return aHigh * bHigh + (one >> LIMB_BITS) + (two >> LIMB_BITS);
        }

        void add(Whole other) {
            long carry = 0;
            for (int i = 0; i < SIZE; i++) {
                long sum = limbs[i] + other.limbs[i] + carry;
                limbs[i] = sum & LOW;
                carry = sum >>> LIMB_BITS;
            }
        }

        void subtract(Whole other) {
            long borrow = 0;
            for (int i = 0; i < SIZE; i++) {
                long difference = limbs[i] - other.limbs[i] + borrow;
                limbs[i] = difference & LOW;
                borrow = difference >> LIMB_BITS;
            }
        }

        void negate() {
            long carry = 1;
            for (int i = 0; i < SIZE; i++) {
                long sum = (limbs[i] ^ LOW) + carry;
                limbs[i] = sum & LOW;
                carry = sum >>> LIMB_BITS;
            }
        }

        void shiftLeft(int count) {
            int whole = count / LIMB_BITS;
            int part = count % LIMB_BITS;
            for (int i = SIZE - 1; i >= 0; i--) {
                long upper = limb(i - whole) << part;
                long lower = limb(i - whole - 1) >>> (LIMB_BITS - part);
                limbs[i] = (upper | lower) & LOW;
            }
        }

        /** Half of a number not below 0, without what is left. */
        void halve() {
            long fallen = 0;
            for (int i = SIZE - 1; i >= 0; i--) {
                long limb = limbs[i];
                limbs[i] = (limb >>> 1) | (fallen << (LIMB_BITS - 1));
                fallen = limb & 1;
            }
        }

        void setBit(int bit) {
            int index = bit / LIMB_BITS;
            if (bit >= 0 && index < SIZE) {
                limbs[index] |= 1L << (bit % LIMB_BITS);
            }
        }
    }

    /** A whole number with a root: plain and factor times the root of a radicand. */
    private static final class Rooted {
        final Whole plain = new Whole();
        /** What the root part is squared, and its sign: it is compared only squared. */
        final Whole square = new Whole();
        int side;
        long factor;
        private final Whole factorSquare = new Whole();

        void setTo(Rooted other) {
            plain.setTo(other.plain);
            square.setTo(other.square);
            side = other.side;
            factor = other.factor;
        }

        void setRoot(long newFactor, Whole radicand) {
            factor = newFactor;
            side = Long.signum(newFactor) * radicand.sign();
            factorSquare.setTo(0);
            factorSquare.addProduct(newFactor, newFactor);
            square.setToProduct(factorSquare, radicand);
        }
    }

    /** Tells signs of rooted numbers and rounds fractions of them. */
    private static final class Roots {
        /** Every coordinate, seen from a place of its shape, is between -2^42 and 2^42. */
        private static final int TOP_BIT = 42;

        private final Whole size = new Whole();
        private final Whole sizeSquare = new Whole();
        private final Rooted rest = new Rooted();
        private final Whole step = new Whole();

        int sign(Rooted value) {
            int plainSide = value.plain.sign();
            if (value.side == 0 || plainSide == value.side) {
                return plainSide;
            }
            if (plainSide == 0) {
                return value.side;
            }
            size.setTo(value.plain);
            if (plainSide < 0) {
                // its square is the same, but found sooner: its high limbs are 0
                size.negate();
            }
            sizeSquare.setToProduct(size, size);
            return plainSide * sizeSquare.against(value.square);
        }

        /** A rooted number divided by one above 0, rounded: the answer is found bit by bit. */
        long rounded(Rooted value, Whole below, int how) {
            rest.setTo(value);
            step.setTo(below);
            if (how == NEAREST) {
                addHalf(below);
            }
            step.shiftLeft(TOP_BIT);
            rest.plain.add(step);
            long found = -(1L << TOP_BIT);
            for (int bit = TOP_BIT; bit >= 0; bit--) {
                rest.plain.subtract(step);
                if (sign(rest) >= 0) {
                    found += 1L << bit;
                } else {
                    rest.plain.add(step);
                }
                step.halve();
            }
            return how == UP && sign(rest) != 0 ? found + 1 : found;
        }

        /** Doubles both parts of the fraction, so that a half of it is whole. */
        private void addHalf(Whole below) {
            rest.plain.shiftLeft(1);
            rest.plain.add(below);
            rest.square.shiftLeft(2);
            step.shiftLeft(1);
        }
    }

    private abstract static class Shape {
        abstract boolean holds(long x, long y, Whole work);
    }

    private static final class Segment extends Shape {
        final long ax;
        final long ay;
        final long bx;
        final long by;
        final long dx;
        final long dy;

        Segment(long ax, long ay, long bx, long by) {
            this.ax = ax;
            this.ay = ay;
            this.bx = bx;
            this.by = by;
            dx = bx - ax;
            dy = by - ay;
        }

        @Override
        boolean holds(long x, long y, Whole work) {
            if (x < Math.min(ax, bx) || x > Math.max(ax, bx)) {
                return false;
            }
            if (y < Math.min(ay, by) || y > Math.max(ay, by)) {
                return false;
            }
            work.setToCross(dx, dy, x - ax, y - ay);
            return work.sign() == 0;
        }

        /** Numbers the places of the segment's line in their order. */
        long along(long x, long y) {
            return dx != 0 ? x : y;
        }
    }

    private static final class Arc extends Shape {
        final long cx;
        final long cy;
        final long r;
        private final int from;
        private final int to;

        Arc(long cx, long cy, long r, int from, int to) {
            this.cx = cx;
            this.cy = cy;
            this.r = r;
            this.from = from;
            this.to = to;
        }

        @Override
        boolean holds(long x, long y, Whole work) {
            long u = x - cx;
            long v = y - cy;
            work.setToDot(u, v, u, v);
            work.addProduct(r, -1);
            return work.sign() == 0
                    && reaches(Long.signum(u), Long.signum(v), Long.signum(u - v), Long.signum(u + v));
        }

        /** Whether it has the direction to (x, y), told by the signs of x, y, x - y and x + y. */
        boolean reaches(int x, int y, int difference, int sum) {
            if (from == to) {
                return true;
            }
            boolean lower = y < 0 || y == 0 && x < 0;
            int turned = lower ? -1 : 1;
            // 2k is direction k, 2k + 1 is what lies between it and the next one: in each half of
            // the turn x - y, x and x + y go from above 0 to below 0 one after the other
            int sixteenth = (lower ? 8 : 0) + (y == 0 ? 0 : 1) + 3 - turned * (difference + x + sum);
            return ((sixteenth - 2 * from) & 15) <= ((2 * to - 2 * from) & 15);
        }
    }

    private static final class Point {
        final Rooted x = new Rooted();
        final Rooted y = new Rooted();
    }

    /** The latest crossing: its points are rooted numbers over below, seen from a base. */
    private static final class Crossing {
        private final Roots roots = new Roots();
        boolean made;
        int count;
        private long baseX;
        private long baseY;
        private final Whole below = new Whole();
        private final Point first = new Point();
        private final Point second = new Point();

        private final Point far = new Point();
        private final Rooted end = new Rooted();
        private final Whole radicand = new Whole();
        private final Whole along = new Whole();
        private final Whole aside = new Whole();
        private final Whole work = new Whole();

        void forget() {
            made = false;
            count = 0;
        }

        long coordinate(int k, int axis, int how) {
            Point point = k == 0 ? first : second;
            return axis == 0
                    ? baseX + roots.rounded(point.x, below, how)
                    : baseY + roots.rounded(point.y, below, how);
        }

        void ofSegments(Segment s, Segment t) {
            long fx = t.ax - s.ax;
            long fy = t.ay - s.ay;
            below.setToCross(s.dx, s.dy, t.dx, t.dy);
            along.setToCross(fx, fy, t.dx, t.dy);
            aside.setToCross(fx, fy, s.dx, s.dy);
            made = true;
            if (below.sign() == 0) {
                if (aside.sign() == 0) {
                    ofSegmentsOnOneLine(s, t);
                }
                return;
            }
            if (below.sign() < 0) {
                below.negate();
                along.negate();
                aside.negate();
            }
            if (isPartOfBelow(along) && isPartOfBelow(aside)) {
                startFrom(s.ax, s.ay);
                lay(first, along, s.dx, s.dy, 0, 0);
                count = 1;
            }
        }

        private boolean isPartOfBelow(Whole part) {
            return part.sign() >= 0 && part.against(below) <= 0;
        }

        private void ofSegmentsOnOneLine(Segment s, Segment t) {
            long a = s.along(s.ax, s.ay);
            long b = s.along(s.bx, s.by);
            long c = s.along(t.ax, t.ay);
            long d = s.along(t.bx, t.by);
            long low = Math.max(Math.min(a, b), Math.min(c, d));
            long high = Math.min(Math.max(a, b), Math.max(c, d));
            made = low >= high;
            if (low == high) {
                startFrom(low == a ? s.ax : s.bx, low == a ? s.ay : s.by);
                below.setTo(1);
                lay(first, along, 0, 0, 0, 0);
                count = 1;
            }
        }

        /**
         * With d the way of the segment and f the one from the centre to its first place, f + t d is
         * on the circle where t is (-along and the root of the radicand, or less it) over below.
         */
        void ofSegmentAndArc(Segment s, Arc arc) {
            long fx = s.ax - arc.cx;
            long fy = s.ay - arc.cy;
            made = true;
            startFrom(arc.cx, arc.cy);
            below.setToDot(s.dx, s.dy, s.dx, s.dy);
            along.setToDot(fx, fy, s.dx, s.dy);
            aside.setToCross(s.dx, s.dy, fx, fy);
            setRadicand(arc.r, 0, aside);
            if (radicand.sign() >= 0) {
                meetSegmentAndArc(s, arc, -1);
            }
            if (radicand.sign() > 0) {
                meetSegmentAndArc(s, arc, 1);
            }
        }

        private void meetSegmentAndArc(Segment s, Arc arc, int side) {
            Point point = count == 0 ? first : second;
            lay(point, aside, -s.dy, s.dx, side * s.dx, side * s.dy);
            if (isBetweenEnds(side) && isTowards(arc, point)) {
                count++;
            }
        }

        /** Whether side times the root of the radicand, less along, is from 0 to below. */
        private boolean isBetweenEnds(int side) {
            end.setRoot(side, radicand);
            end.plain.setTo(along);
            end.plain.negate();
            if (roots.sign(end) < 0) {
                return false;
            }
            end.plain.subtract(below);
            return roots.sign(end) <= 0;
        }

        /** Both points lie along / below of the way e between the centres, and then to its sides. */
        void ofArcs(Arc a, Arc b) {
            long ex = b.cx - a.cx;
            long ey = b.cy - a.cy;
            if (ex == 0 && ey == 0) {
                made = a.r != b.r;
                return;
            }
            made = true;
            startFrom(a.cx, a.cy);
            below.setToDot(ex, ey, ex, ey);
            along.setTo(below);
            along.addProduct(a.r, 1);
            along.addProduct(b.r, -1);
            below.shiftLeft(1);
            aside.setTo(along);
            aside.subtract(below);
            setRadicand(a.r, 1, along);
            if (radicand.sign() >= 0) {
                meetArcs(a, b, 1);
            }
            if (radicand.sign() > 0) {
                meetArcs(a, b, -1);
            }
        }

        private void meetArcs(Arc a, Arc b, int side) {
            long ex = b.cx - a.cx;
            long ey = b.cy - a.cy;
            Point point = count == 0 ? first : second;
            lay(point, along, ex, ey, -side * ey, side * ex);
            lay(far, aside, ex, ey, -side * ey, side * ex);
            if (isTowards(a, point) && isTowards(b, far)) {
                count++;
            }
        }

        private void startFrom(long x, long y) {
            baseX = x;
            baseY = y;
        }

        /** The radicand is below times r, doubled so often, less a square: 2 r could be no long. */
        private void setRadicand(long r, int doublings, Whole toSquare) {
            work.setTo(r);
            work.shiftLeft(doublings);
            radicand.setToProduct(work, below);
            work.setToProduct(toSquare, toSquare);
            radicand.subtract(work);
        }

        /** Sets a point to size times (sx, sy) and the root of the radicand times (rx, ry). */
        private void lay(Point point, Whole size, long sx, long sy, long rx, long ry) {
            work.setTo(sx);
            point.x.plain.setToProduct(size, work);
            point.x.setRoot(rx, radicand);
            work.setTo(sy);
            point.y.plain.setToProduct(size, work);
            point.y.setRoot(ry, radicand);
        }

        /** Whether a point, seen from an arc's centre, is in one of the arc's directions. */
        private boolean isTowards(Arc arc, Point point) {
            int x = roots.sign(point.x);
            int y = roots.sign(point.y);
            end.plain.setTo(point.x.plain);
            end.plain.add(point.y.plain);
            end.setRoot(point.x.factor + point.y.factor, radicand);
            int sum = roots.sign(end);
            end.plain.setTo(point.x.plain);
            end.plain.subtract(point.y.plain);
            end.setRoot(point.x.factor - point.y.factor, radicand);
            return arc.reaches(x, y, roots.sign(end), sum);
        }
    }

    /** How far two segments are apart, squared, as a fraction in lowest terms. */
    private static final class Gap {
        /** Far more steps than two numbers of 256 bits need to come to their common divisor. */
        private static final int MOST_STEPS = 1000;

        final Whole above = new Whole();
        final Whole below = new Whole();
        private final Whole newAbove = new Whole();
        private final Whole newBelow = new Whole();
        private final Whole left = new Whole();
        private final Whole right = new Whole();
        private final Whole quotient = new Whole();
        private final Whole shifted = new Whole();
        private Segment measured;
        private Segment measuredWith;

        /** A caller asks for the limbs one by one, and segments never change: so it is done once. */
        void measure(Segment s, Segment t) {
            if (s == measured && t == measuredWith) {
                return;
            }
            measured = s;
            measuredWith = t;
            if (isParted(s, t) && isParted(t, s)) {
                above.setTo(0);
                below.setTo(1);
                return;
            }
            // 1 above 0 is more than every distance
            above.setTo(1);
            below.setTo(0);
            takeIfNearer(s, t.ax, t.ay);
            takeIfNearer(s, t.bx, t.by);
            takeIfNearer(t, s.ax, s.ay);
            takeIfNearer(t, s.bx, s.by);
            reduce();
        }

        /** Whether the second segment's ends are on unlike sides of the first one's line. */
        private boolean isParted(Segment s, Segment t) {
            left.setToCross(s.dx, s.dy, t.ax - s.ax, t.ay - s.ay);
            right.setToCross(s.dx, s.dy, t.bx - s.ax, t.by - s.ay);
            return left.sign() * right.sign() < 0;
        }

        private void takeIfNearer(Segment s, long x, long y) {
            setNew(s, x, y);
            left.setToProduct(newAbove, below);
            right.setToProduct(newBelow, above);
            if (left.against(right) < 0) {
                above.setTo(newAbove);
                below.setTo(newBelow);
            }
        }

        private void setNew(Segment s, long x, long y) {
            long fx = x - s.ax;
            long fy = y - s.ay;
            newBelow.setToDot(s.dx, s.dy, s.dx, s.dy);
            left.setToDot(fx, fy, s.dx, s.dy);
            if (left.sign() <= 0) {
                newAbove.setToDot(fx, fy, fx, fy);
                newBelow.setTo(1);
            } else if (left.against(newBelow) >= 0) {
                newAbove.setToDot(x - s.bx, y - s.by, x - s.bx, y - s.by);
                newBelow.setTo(1);
            } else {
                left.setToCross(s.dx, s.dy, fx, fy);
                newAbove.setToProduct(left, left);
            }
        }

        private void reduce() {
            Whole divisor = commonDivisor();
            newAbove.setTo(above);
            divide(newAbove, divisor);
            above.setTo(quotient);
            newBelow.setTo(below);
            divide(newBelow, divisor);
            below.setTo(quotient);
        }

        private Whole commonDivisor() {
            left.setTo(above);
            right.setTo(below);
            Whole larger = left;
            Whole smaller = right;
            for (int step = 0; step < MOST_STEPS && smaller.sign() != 0; step++) {
                divide(larger, smaller);
                Whole rest = larger;
                larger = smaller;
                smaller = rest;
            }
            return larger;
        }

        /** Divides by a number above 0; the rest stays in what was divided. */
        private void divide(Whole divided, Whole by) {
            int shift = divided.bits() - by.bits();
            quotient.setTo(0);
            if (shift < 0) {
                return;
            }
            shifted.setTo(by);
            shifted.shiftLeft(shift);
            for (int bit = shift; bit >= 0; bit--) {
                if (divided.against(shifted) >= 0) {
                    divided.subtract(shifted);
                    quotient.setBit(bit);
                }
                shifted.halve();
            }
        }
    }

    /** Corners, each with the one before it added to a sum at once: so none is kept but two. */
    private static final class Polygon {
        int count;
        private long firstX;
        private long firstY;
        private long lastX;
        private long lastY;
        private final Whole sum = new Whole();

        void forget() {
            count = 0;
            firstX = 0;
            firstY = 0;
            lastX = 0;
            lastY = 0;
            sum.setTo(0);
        }

        void add(long x, long y) {
            if (count == 0) {
                firstX = x;
                firstY = y;
            } else {
                sum.addCross(lastX, lastY, x, y);
            }
            lastX = x;
            lastY = y;
            count++;
        }

        /** With less than three corners the way goes back as it came, and the sum is 0. */
        void measureTwice(Whole area) {
            area.setTo(sum);
            area.addCross(lastX, lastY, firstX, firstY);
        }
    }
}
