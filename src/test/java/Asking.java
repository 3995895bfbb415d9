import java.math.BigInteger;

/** What the tests ask by many calls at once: shapes made, points, fractions and areas told in one text. */
abstract class Asking {
    static final long E = 1L << 40;
    static final long R = 1L << 62;
    static final Class<IllegalArgumentException> IAE = IllegalArgumentException.class;
    static final Class<IndexOutOfBoundsException> IOOBE = IndexOutOfBoundsException.class;
    static final Class<IllegalStateException> ISE = IllegalStateException.class;
    static final Class<ArithmeticException> AE = ArithmeticException.class;

    static String fraction(NanoSigns n, int a, int b) {
        BigInteger[] parts = {BigInteger.ZERO, BigInteger.ZERO};
        for (int part = 0; part < 2; part++) {
            for (int limb = 5; limb >= 0; limb--) {
                parts[part] = parts[part].shiftLeft(32).add(BigInteger.valueOf(n.distance(a, b, part, limb)));
            }
        }
        return parts[0] + "/" + parts[1];
    }

    static String apart(long[] s, long[] t) {
        NanoSigns n = new NanoSigns();
        int a = n.segment(s[0], s[1], s[2], s[3]);
        int b = n.segment(t[0], t[1], t[2], t[3]);
        String there = fraction(n, a, b);
        String back = fraction(n, b, a);
        return there.equals(back) ? there : there + " but back " + back;
    }

    static long[] places(long... all) {
        return all;
    }

    static NanoSigns with(long[]... shapes) {
        NanoSigns n = new NanoSigns();
        for (long[] s : shapes) {
            if (s.length == 4) {
                n.segment(s[0], s[1], s[2], s[3]);
            } else {
                n.arc(s[0], s[1], s[2], (int) s[3], (int) s[4]);
            }
        }
        return n;
    }

    /** Crosses two shapes, and tells each point rounded down and up, in one where both are the same. */
    static String met(long[] a, long[] b) {
        return met(with(a, b), 0, 1);
    }

    static String met(NanoSigns n, int a, int b) {
        StringBuilder text = new StringBuilder();
        int count = n.cross(a, b);
        text.append(count);
        for (int k = 0; k < count; k++) {
            text.append(k == 0 ? ": " : ", ");
            for (int axis = 0; axis < 2; axis++) {
                long down = n.at(k, axis, 0);
                long up = n.at(k, axis, 1);
                text.append(axis == 0 ? "" : " ").append(down == up ? "" + down : down + ".." + up);
            }
        }
        return text.toString();
    }

    /** A point's coordinate, rounded in each of the three ways, as are the quotient and the root below. */
    static String ways(NanoSigns n, int k, int axis) {
        return n.at(k, axis, 0) + " " + n.at(k, axis, 1) + " " + n.at(k, axis, 2);
    }

    static String over(long a, long b) {
        NanoSigns n = new NanoSigns();
        return n.over(a, b, 0) + " " + n.over(a, b, 1) + " " + n.over(a, b, 2);
    }

    static String root(long v) {
        NanoSigns n = new NanoSigns();
        return n.root(v, 0) + " " + n.root(v, 1) + " " + n.root(v, 2);
    }

    /** The area twice, from its limbs. */
    static BigInteger area(NanoSigns n) {
        BigInteger all = BigInteger.ZERO;
        for (int limb = 3; limb >= 0; limb--) {
            all = all.shiftLeft(32).add(BigInteger.valueOf(n.area(limb)));
        }
        return all.testBit(127) ? all.subtract(BigInteger.ONE.shiftLeft(128)) : all;
    }

    static NanoSigns polygon(int times, long... all) {
        NanoSigns n = new NanoSigns();
        for (int t = 0; t < times; t++) {
            for (int i = 0; i < all.length; i += 2) {
                n.corner(all[i], all[i + 1]);
            }
        }
        return n;
    }
}
