/** Long runs of calls, always the same ones, on the class and on the model: every answer is the same. */
public final class RandomRunsTest {
    private static final long E = 1L << 40;
    private static final int RUNS = 840;
    private static final int MOST_CALLS = 512;

    private long state;
    private NanoSigns real;
    private Model model;
    private long spread;
    private int made;
    private int calls;

    private RandomRunsTest(long seed) {
        state = seed;
    }

    public static void main(String[] args) {
        int runs = args.length > 0 ? Integer.parseInt(args[0]) : RUNS;
        int first = args.length > 1 ? Integer.parseInt(args[1]) : 0;
        for (int run = first; run < first + runs; run++) {
            new RandomRunsTest(run * 7919L + 1).run(run);
        }
        Due.end();
    }

    private int below(int bound) {
        state = state * 6364136223846793005L + 1442695040888963407L;
        return (int) ((state >>> 33) % bound);
    }

    private long any() {
        return ((long) below(1 << 30) << 34) ^ ((long) below(1 << 30) << 12) ^ below(1 << 30);
    }

    /** A coordinate, now and then at an edge, seldom a wrong one. */
    private long place() {
        int kind = below(300);
        if (kind == 0) {
            return below(2) == 0 ? E + 1 + below(3) : -E - 1 - below(3);
        }
        if (spread > 1000 && kind < 60) {
            long edge = kind < 20 ? E : kind < 40 ? -E : 0;
            return Math.max(-E, Math.min(E, edge + below(5) - 2));
        }
        if (spread == E && below(2) == 0) {
            // near one corner of all places, where arcs can meet
            return E - Math.floorMod(any(), 1L << 31);
        }
        return Math.floorMod(any(), 2 * spread + 1) - spread;
    }

    private int number(int bound) {
        int kind = below(40);
        return kind == 0 ? -1 : kind == 1 ? bound : bound <= 0 ? 0 : below(bound);
    }

    private int shape() {
        return made > 6 && below(3) > 0 ? made - 1 - below(6) : number(made);
    }

    private long r() {
        int kind = below(60);
        if (kind == 0) {
            return -below(2);
        }
        if (kind == 1) {
            return (1L << 62) + below(3) - 1;
        }
        if (kind < 30) {
            long side = Math.min(spread, 1L << 30) + 1;
            long u = Math.floorMod(any(), side);
            long v = kind < 10 ? u : Math.floorMod(any(), side);
            return u * u + v * v;
        }
        long most = Math.min(spread, 1L << 30);
        return kind < 50 ? Math.floorMod(any(), most * most) + 1 : any() >>> (2 + below(20));
    }

    private long wide() {
        int kind = below(10);
        return kind == 0 ? Long.MIN_VALUE + below(3) : kind == 1 ? Long.MAX_VALUE - below(3)
            : kind < 6 ? below(41) - 20 : any() >> below(40);
    }

    private void run(int run) {
        real = new NanoSigns();
        model = new Model();
        made = 0;
        calls = 0;
        long[] spreads = {4, 9, 30, 1000, 1L << 20, 1L << 31, E};
        spread = spreads[run % spreads.length];
        while (calls < MOST_CALLS) {
            step("run " + run + " call " + calls + ": ");
        }
    }

    private void step(String name) {
        int kind = below(100);
        if (kind < 5) {
            kin(name);
        } else if (kind < 14) {
            segment(name, place(), place(), place(), place());
        } else if (kind < 28) {
            arc(name, place(), place(), r(), number(8), number(8));
        } else if (kind < 62) {
            crossAndAsk(name, shape(), shape());
        } else if (kind < 72) {
            int a = shape();
            int b = shape();
            int part = number(2);
            int limb = number(6);
            same(name + "distance(" + a + ", " + b + ", " + part + ", " + limb + ")",
                () -> real.distance(a, b, part, limb), () -> model.distance(a, b, part, limb));
        } else if (kind < 80) {
            int s = shape();
            long x = place();
            long y = place();
            same(name + "on(" + s + ", " + x + ", " + y + ")", () -> real.on(s, x, y), () -> model.on(s, x, y));
        } else if (kind < 90) {
            numbers(name);
        } else {
            polygon(name);
        }
    }

    /** An arc and shapes that touch it, or all but touch it, in a place of its own. */
    private void kin(String name) {
        long side = Math.min(spread, 1L << 30);
        long cx = place();
        long cy = place();
        long u = Math.floorMod(any(), 2 * side + 1) - side;
        long v = below(4) == 0 ? u : below(4) == 0 ? 0 : Math.floorMod(any(), 2 * side + 1) - side;
        int k = 2 + below(3);
        int off = below(3) - 1;
        int from = below(8);
        int to = below(8);
        long r = u * u + v * v;
        arc(name, cx, cy, r, from, to);
        int touching = made;
        segment(name, cx + u + k * v, cy + v - k * u, cx + u - v, cy + v + u);
        segment(name, cx, cy, cx + k * u, cy + k * v);
        segment(name, cx + u, cy + v, place(), place());
        segment(name, cx + u + k * v, cy + v - k * u + off, cx + u - k * v, cy + v + k * u);
        long out = (k - 1) * (k - 1) * r;
        arc(name, cx + k * u, cy + k * v, out + off, below(8), below(8));
        arc(name, cx - (k - 1) * u, cy - (k - 1) * v, k * k * r, from, from);
        for (int other = touching; other < made; other++) {
            crossAndAsk(name, touching - 1, other);
            crossAndAsk(name, other, touching - 1);
        }
        int last = touching - 1;
        same(name + "on kin", () -> real.on(last, cx + u, cy + v), () -> model.on(last, cx + u, cy + v));
    }

    private void segment(String name, long ax, long ay, long bx, long by) {
        same(name + "segment(" + ax + ", " + ay + ", " + bx + ", " + by + ")",
            () -> real.segment(ax, ay, bx, by), () -> grown(model.segment(ax, ay, bx, by)));
    }

    private void arc(String name, long cx, long cy, long r, int from, int to) {
        int end = below(4) == 0 ? from : to;
        same(name + "arc(" + cx + ", " + cy + ", " + r + ", " + from + ", " + end + ")",
            () -> real.arc(cx, cy, r, from, end), () -> grown(model.arc(cx, cy, r, from, end)));
    }

    private int grown(int answer) {
        made = Math.max(made, answer + 1);
        return answer;
    }

    private void crossAndAsk(String name, int a, int b) {
        same(name + "cross(" + a + ", " + b + ")", () -> real.cross(a, b), () -> model.cross(a, b));
        for (int k = 0; k < 3; k++) {
            for (int axis = 0; axis < 2; axis++) {
                int point = k;
                int way = axis;
                int how = number(3);
                same(name + "cross(" + a + ", " + b + ") at(" + point + ", " + way + ", " + how + ")",
                    () -> real.at(point, way, how), () -> model.at(point, way, how));
            }
        }
    }

    private void numbers(String name) {
        long a = wide();
        long b = wide();
        long c = wide();
        long d = wide();
        int how = number(3);
        same(name + "compare(" + a + ", " + b + ", " + c + ", " + d + ")",
            () -> real.compare(a, b, c, d), () -> model.compare(a, b, c, d));
        long root = Math.abs(c % 2000000);
        long factor = b % 2000000;
        same(name + "compare near " + a + ", " + factor + ", " + root,
            () -> real.compare(a, factor, root * root, a + factor * root),
            () -> model.compare(a, factor, root * root, a + factor * root));
        same(name + "over(" + a + ", " + b + ", " + how + ")",
            () -> real.over(a, b, how), () -> model.over(a, b, how));
        same(name + "root(" + c + ", " + how + ")", () -> real.root(c, how), () -> model.root(c, how));
        long[] p = {place(), place(), place(), place(), place(), place()};
        same(name + "turn" + java.util.Arrays.toString(p),
            () -> real.turn(p[0], p[1], p[2], p[3], p[4], p[5]), () -> model.turn(p[0], p[1], p[2], p[3], p[4], p[5]));
    }

    private void polygon(String name) {
        long x = place();
        long y = place();
        int limb = number(4);
        same(name + "corner(" + x + ", " + y + ")", () -> real.corner(x, y), () -> model.corner(x, y));
        same(name + "area(" + limb + ")", () -> real.area(limb), () -> model.area(limb));
        if (below(60) == 0) {
            same(name + "clear()", () -> cleared(real), () -> cleared(model));
            made = 0;
        }
    }

    private static String cleared(NanoSigns n) {
        n.clear();
        return "done";
    }

    private static String cleared(Model m) {
        m.clear();
        return "done";
    }

    /** Nothing is promised behind an object's 512th call, so none is made. */
    private void same(String what, Due.Call got, Due.Call want) {
        if (calls < MOST_CALLS) {
            calls++;
            Due.same(what, Due.told(want), Due.told(got));
        }
    }
}
