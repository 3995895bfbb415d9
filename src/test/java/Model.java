import java.math.BigDecimal;
import java.math.BigInteger;
import java.math.MathContext;
import java.math.RoundingMode;
import java.util.ArrayList;
import java.util.List;

/**
 * The document once more, by other ways than the class goes: numbers with 260 digits instead of exact
 * signs. What is not 0 here is above 1e-65 (it is a fraction whose parts stay below 2^215), so that
 * what is below 1e-90 is 0.
 */
final class Model {
    private static final MathContext FINE = new MathContext(260, RoundingMode.HALF_EVEN);
    private static final BigDecimal TINY = new BigDecimal("1e-90");
    private static final BigDecimal HALF = new BigDecimal("0.5");
    private static final long E = 1L << 40;
    private static final long[] DX = {1, 1, 0, -1, -1, -1, 0, 1};
    private static final long[] DY = {0, 1, 1, 1, 0, -1, -1, -1};

    /** A segment has 4 numbers, an arc 5. */
    private final List<long[]> shapes = new ArrayList<>();
    private final List<long[]> corners = new ArrayList<>();
    private List<BigDecimal[]> points = null;

    private static BigDecimal dec(long v) {
        return BigDecimal.valueOf(v);
    }

    private static BigInteger big(long v) {
        return BigInteger.valueOf(v);
    }

    private static int sign(BigDecimal v) {
        return v.abs().compareTo(TINY) < 0 ? 0 : v.signum();
    }

    private static boolean noPlace(long x, long y) {
        return big(x).abs().compareTo(big(E)) > 0 || big(y).abs().compareTo(big(E)) > 0;
    }

    private static void argument(boolean wrong) {
        if (wrong) {
            throw new IllegalArgumentException();
        }
    }

    private static void index(boolean wrong) {
        if (wrong) {
            throw new IndexOutOfBoundsException();
        }
    }

    private static long rounded(BigDecimal v, int how) {
        BigDecimal x = how == 2 ? v.add(HALF) : v;
        BigDecimal near = x.setScale(0, RoundingMode.HALF_EVEN);
        if (sign(x.subtract(near)) == 0) {
            return near.longValueExact();
        }
        return x.setScale(0, how == 1 ? RoundingMode.CEILING : RoundingMode.FLOOR).longValueExact();
    }

    int turn(long ax, long ay, long bx, long by, long cx, long cy) {
        argument(noPlace(ax, ay) || noPlace(bx, by) || noPlace(cx, cy));
        // the triangle's area by its three corners, not by differences
        return big(ax).multiply(big(by).subtract(big(cy))).add(big(bx).multiply(big(cy).subtract(big(ay))))
            .add(big(cx).multiply(big(ay).subtract(big(by)))).signum();
    }

    int segment(long ax, long ay, long bx, long by) {
        argument(noPlace(ax, ay) || noPlace(bx, by) || ax == bx && ay == by);
        return put(new long[] {ax, ay, bx, by});
    }

    int arc(long cx, long cy, long r, int from, int to) {
        argument(noPlace(cx, cy) || r < 1 || r > 1L << 62 || from < 0 || from > 7 || to < 0 || to > 7);
        return put(new long[] {cx, cy, r, from, to});
    }

    private int put(long[] shape) {
        if (shapes.size() == 200) {
            return -1;
        }
        shapes.add(shape);
        return shapes.size() - 1;
    }

    private boolean none(int shape) {
        return shape < 0 || shape >= shapes.size();
    }

    long distance(int a, int b, int part, int limb) {
        index(none(a) || none(b) || part < 0 || part > 1 || limb < 0 || limb > 5);
        long[] s = shapes.get(a);
        long[] t = shapes.get(b);
        argument(s.length == 5 || t.length == 5);
        BigInteger[] best = touch(s, t) ? new BigInteger[] {BigInteger.ZERO, BigInteger.ONE} : null;
        if (best == null) {
            best = nearer(nearer(far(t[0], t[1], s), far(t[2], t[3], s)),
                nearer(far(s[0], s[1], t), far(s[2], s[3], t)));
        }
        BigInteger g = best[0].gcd(best[1]);
        return best[part].divide(g).shiftRight(32 * limb).longValue() & 0xFFFFFFFFL;
    }

    private boolean touch(long[] s, long[] t) {
        int a = turn(s[0], s[1], s[2], s[3], t[0], t[1]);
        int b = turn(s[0], s[1], s[2], s[3], t[2], t[3]);
        int c = turn(t[0], t[1], t[2], t[3], s[0], s[1]);
        int d = turn(t[0], t[1], t[2], t[3], s[2], s[3]);
        return a * b < 0 && c * d < 0 || onSegment(s, t[0], t[1]) || onSegment(s, t[2], t[3])
            || onSegment(t, s[0], s[1]) || onSegment(t, s[2], s[3]);
    }

    /** A place is on a segment if it looks to its ends in opposite directions, or is an end. */
    private boolean onSegment(long[] s, long x, long y) {
        BigInteger look = big(s[0] - x).multiply(big(s[2] - x)).add(big(s[1] - y).multiply(big(s[3] - y)));
        return turn(s[0], s[1], s[2], s[3], x, y) == 0 && look.signum() <= 0;
    }

    /** The nearest point is a + (t / l) d, t held from 0 to l: its distance over l squared. */
    private static BigInteger[] far(long x, long y, long[] s) {
        BigInteger dx = big(s[2] - s[0]);
        BigInteger dy = big(s[3] - s[1]);
        BigInteger fx = big(x - s[0]);
        BigInteger fy = big(y - s[1]);
        BigInteger l = dx.multiply(dx).add(dy.multiply(dy));
        BigInteger t = dx.multiply(fx).add(dy.multiply(fy)).max(BigInteger.ZERO).min(l);
        BigInteger ox = fx.multiply(l).subtract(t.multiply(dx));
        BigInteger oy = fy.multiply(l).subtract(t.multiply(dy));
        return new BigInteger[] {ox.multiply(ox).add(oy.multiply(oy)), l.multiply(l)};
    }

    private static BigInteger[] nearer(BigInteger[] a, BigInteger[] b) {
        return a[0].multiply(b[1]).compareTo(b[0].multiply(a[1])) <= 0 ? a : b;
    }

    int compare(long a, long b, long c, long d) {
        argument(c < 0);
        return sign(dec(a).add(dec(b).multiply(dec(c).sqrt(FINE))).subtract(dec(d)));
    }

    int cross(int a, int b) {
        points = null;
        index(none(a) || none(b));
        long[] s = shapes.get(a);
        long[] t = shapes.get(b);
        List<BigDecimal[]> found = new ArrayList<>();
        if (s.length == 4 && t.length == 4) {
            crossSegments(s, t, found);
        } else if (s.length == 4) {
            crossSegmentArc(s, t, found);
        } else if (t.length == 4) {
            crossSegmentArc(t, s, found);
        } else {
            crossArcs(s, t, found);
        }
        points = found;
        return points.size();
    }

    private void crossSegments(long[] s, long[] t, List<BigDecimal[]> found) {
        if (turn(s[0], s[1], s[2], s[3], t[0], t[1]) == 0 && turn(s[0], s[1], s[2], s[3], t[2], t[3]) == 0) {
            List<String> common = new ArrayList<>();
            for (long[] e : new long[][] {{s[0], s[1]}, {s[2], s[3]}, {t[0], t[1]}, {t[2], t[3]}}) {
                if (onSegment(s, e[0], e[1]) && onSegment(t, e[0], e[1]) && !common.contains(e[0] + " " + e[1])) {
                    common.add(e[0] + " " + e[1]);
                    found.add(new BigDecimal[] {dec(e[0]), dec(e[1])});
                }
            }
            argument(found.size() > 1);
            return;
        }
        if (!touch(s, t)) {
            return;
        }
        // the lines p x + q y = w of both
        BigDecimal p = dec(s[3] - s[1]);
        BigDecimal q = dec(s[0] - s[2]);
        BigDecimal w = p.multiply(dec(s[0])).add(q.multiply(dec(s[1])));
        BigDecimal u = dec(t[3] - t[1]);
        BigDecimal v = dec(t[0] - t[2]);
        BigDecimal z = u.multiply(dec(t[0])).add(v.multiply(dec(t[1])));
        BigDecimal det = p.multiply(v).subtract(q.multiply(u));
        found.add(new BigDecimal[] {w.multiply(v).subtract(q.multiply(z)).divide(det, FINE),
            p.multiply(z).subtract(w.multiply(u)).divide(det, FINE)});
    }

    private static void crossSegmentArc(long[] s, long[] c, List<BigDecimal[]> found) {
        BigDecimal dx = dec(s[2] - s[0]);
        BigDecimal dy = dec(s[3] - s[1]);
        BigDecimal fx = dec(s[0] - c[0]);
        BigDecimal fy = dec(s[1] - c[1]);
        BigDecimal a = dx.multiply(dx).add(dy.multiply(dy));
        BigDecimal b = dx.multiply(fx).add(dy.multiply(fy));
        BigDecimal rest = fx.multiply(fx).add(fy.multiply(fy)).subtract(dec(c[2]));
        BigDecimal disc = b.multiply(b).subtract(a.multiply(rest));
        if (disc.signum() < 0) {
            return;
        }
        BigDecimal root = disc.sqrt(FINE);
        for (int side = -1; side <= (disc.signum() == 0 ? -1 : 1); side += 2) {
            BigDecimal t = root.multiply(dec(side)).subtract(b).divide(a, FINE);
            BigDecimal x = dec(s[0]).add(dx.multiply(t));
            BigDecimal y = dec(s[1]).add(dy.multiply(t));
            if (sign(t) >= 0 && sign(t.subtract(BigDecimal.ONE)) <= 0 && towards(c, x, y)) {
                found.add(new BigDecimal[] {x, y});
            }
        }
    }

    private static void crossArcs(long[] a, long[] b, List<BigDecimal[]> found) {
        BigDecimal ex = dec(b[0] - a[0]);
        BigDecimal ey = dec(b[1] - a[1]);
        BigDecimal e = ex.multiply(ex).add(ey.multiply(ey));
        if (e.signum() == 0) {
            argument(a[2] == b[2]);
            return;
        }
        BigDecimal r = dec(a[2]);
        BigDecimal q = dec(b[2]);
        BigDecimal gap = e.subtract(r).subtract(q);
        int meeting = gap.multiply(gap).compareTo(r.multiply(q).multiply(dec(4)));
        if (meeting > 0) {
            return;
        }
        BigDecimal length = e.sqrt(FINE);
        BigDecimal along = e.add(r).subtract(q).divide(length.multiply(dec(2)), FINE);
        BigDecimal high = meeting == 0 ? BigDecimal.ZERO : r.subtract(along.multiply(along)).sqrt(FINE);
        for (int side = 1; side >= (meeting == 0 ? 1 : -1); side -= 2) {
            BigDecimal h = high.multiply(dec(side));
            BigDecimal x = dec(a[0]).add(along.multiply(ex).subtract(h.multiply(ey)).divide(length, FINE));
            BigDecimal y = dec(a[1]).add(along.multiply(ey).add(h.multiply(ex)).divide(length, FINE));
            if (towards(a, x, y) && towards(b, x, y)) {
                found.add(new BigDecimal[] {x, y});
            }
        }
    }

    /** Goes from FROM to TO, and looks whether the point is on a direction or between two of them. */
    private static boolean towards(long[] c, BigDecimal px, BigDecimal py) {
        BigDecimal x = px.subtract(dec(c[0]));
        BigDecimal y = py.subtract(dec(c[1]));
        int to = (int) c[4];
        int k = (int) c[3];
        if (k == to) {
            return true;
        }
        for (int step = 0; step <= 8; step++) {
            int next = (k + 1) % 8;
            boolean before = x.multiply(dec(DX[k])).add(y.multiply(dec(DY[k]))).signum() > 0;
            int past = sign(y.multiply(dec(DX[k])).subtract(x.multiply(dec(DY[k]))));
            int ahead = sign(x.multiply(dec(DY[next])).subtract(y.multiply(dec(DX[next]))));
            if (before && past == 0) {
                return true;
            }
            if (k == to) {
                return false;
            }
            if (past > 0 && ahead > 0) {
                return true;
            }
            k = next;
        }
        throw new AssertionError("no end of the arc");
    }

    long at(int k, int axis, int how) {
        if (points == null) {
            throw new IllegalStateException();
        }
        index(k < 0 || k >= points.size() || axis < 0 || axis > 1 || how < 0 || how > 2);
        return rounded(points.get(k)[axis], how);
    }

    boolean on(int shape, long x, long y) {
        index(none(shape));
        argument(noPlace(x, y));
        long[] s = shapes.get(shape);
        if (s.length == 4) {
            return onSegment(s, x, y);
        }
        return big(x - s[0]).pow(2).add(big(y - s[1]).pow(2)).equals(big(s[2])) && towards(s, dec(x), dec(y));
    }

    long over(long a, long b, int how) {
        if (b == 0) {
            throw new ArithmeticException();
        }
        index(how < 0 || how > 2);
        if (a == Long.MIN_VALUE && b == -1) {
            return a;
        }
        return rounded(dec(a).divide(dec(b), FINE), how);
    }

    long root(long v, int how) {
        index(how < 0 || how > 2);
        argument(v < 0);
        return rounded(dec(v).sqrt(FINE), how);
    }

    boolean corner(long x, long y) {
        argument(noPlace(x, y));
        return corners.size() < 200 && corners.add(new long[] {x, y});
    }

    /** By triangles from the first corner. */
    long area(int limb) {
        index(limb < 0 || limb > 3);
        BigInteger sum = BigInteger.ZERO;
        for (int i = 1; i + 1 < corners.size(); i++) {
            long[] a = corners.get(0);
            long[] b = corners.get(i);
            long[] c = corners.get(i + 1);
            sum = sum.add(big(b[0] - a[0]).multiply(big(c[1] - a[1])))
                .subtract(big(b[1] - a[1]).multiply(big(c[0] - a[0])));
        }
        return sum.shiftRight(32 * limb).longValue() & 0xFFFFFFFFL;
    }

    void clear() {
        shapes.clear();
        corners.clear();
        points = null;
    }
}
