import java.util.ArrayList;
import java.util.List;

/**
 * Every way in which a call is refused (it throws, answers NONE, or answers false), on an object with
 * shapes, corners and a crossing: it leaves all of them alone. A refused cross alone leaves nothing crossed.
 */
public final class RefusedCallsTest extends Asking {
    private static final String IAE_TOLD = "throws " + IAE.getName();
    private static final String IOOBE_TOLD = "throws " + IOOBE.getName();
    private static final String AE_TOLD = "throws " + AE.getName();

    interface OnObject {
        Object answer(NanoSigns n);
    }

    private static final class Refused {
        final String what;
        final String due;
        final OnObject call;

        Refused(String what, String due, OnObject call) {
            this.what = what;
            this.due = due;
            this.call = call;
        }
    }

    private final List<Refused> all = new ArrayList<>();

    private RefusedCallsTest() {
        turnAndShapes();
        askings();
        numbers();
    }

    public static void main(String[] args) {
        RefusedCallsTest test = new RefusedCallsTest();
        for (Refused r : test.all) {
            leavesAlone(r, 3, 4);
            leavesAlone(r, 200, 200);
        }
        refusedCross("no first shape", IOOBE_TOLD, n -> n.cross(-1, 0));
        refusedCross("no second shape", IOOBE_TOLD, n -> n.cross(0, 200));
        refusedCross("segments", IAE_TOLD, n -> n.cross(0, 0));
        refusedCross("arcs", IAE_TOLD, n -> n.cross(1, 1));
        whatIsFull();
        Due.end();
    }

    private void add(String what, String due, OnObject call) {
        all.add(new Refused(what, due, call));
    }

    private void turnAndShapes() {
        add("turn, a", IAE_TOLD, n -> n.turn(E + 1, 0, 1, 1, 2, 2));
        add("turn, b", IAE_TOLD, n -> n.turn(0, 0, 1, -E - 1, 2, 2));
        add("turn, c", IAE_TOLD, n -> n.turn(0, 0, 1, 1, 2, E + 1));
        add("segment, a", IAE_TOLD, n -> n.segment(-E - 1, 0, 1, 1));
        add("segment, b", IAE_TOLD, n -> n.segment(0, 0, 1, E + 1));
        add("segment, the same", IAE_TOLD, n -> n.segment(5, 5, 5, 5));
        add("arc, centre", IAE_TOLD, n -> n.arc(0, E + 1, 1, 0, 0));
        add("arc, r too small", IAE_TOLD, n -> n.arc(0, 0, 0, 0, 0));
        add("arc, r too large", IAE_TOLD, n -> n.arc(0, 0, R + 1, 0, 0));
        add("arc, from", IAE_TOLD, n -> n.arc(0, 0, 1, 8, 0));
        add("arc, to", IAE_TOLD, n -> n.arc(0, 0, 1, 0, -1));
        add("corner", IAE_TOLD, n -> n.corner(E + 1, 0));
    }

    private void askings() {
        add("distance, no shape", IOOBE_TOLD, n -> n.distance(0, 200, 0, 0));
        add("distance, no part", IOOBE_TOLD, n -> n.distance(0, 2, 2, 0));
        add("distance, no limb", IOOBE_TOLD, n -> n.distance(0, 2, 0, 6));
        add("distance, an arc", IAE_TOLD, n -> n.distance(0, 1, 0, 0));
        add("at, no point", IOOBE_TOLD, n -> n.at(2, 0, 0));
        add("at, no axis", IOOBE_TOLD, n -> n.at(0, 2, 0));
        add("at, no way", IOOBE_TOLD, n -> n.at(0, 0, 3));
        add("on, no shape", IOOBE_TOLD, n -> n.on(200, 0, 0));
        add("on, no place", IAE_TOLD, n -> n.on(0, E + 1, 0));
        add("area", IOOBE_TOLD, n -> n.area(4));
    }

    private void numbers() {
        add("compare", IAE_TOLD, n -> n.compare(1, 1, -1, 1));
        add("over, by 0", AE_TOLD, n -> n.over(1, 0, 0));
        add("over, no way", IOOBE_TOLD, n -> n.over(1, 2, 3));
        add("root, no way", IOOBE_TOLD, n -> n.root(4, -1));
        add("root, below 0", IAE_TOLD, n -> n.root(-4, 0));
    }

    /** Shapes 0 and 1 cross at (-4, 3) and (4, 3); each one behind shape 2 has a place of its own. */
    private static NanoSigns made(int shapes, int corners) {
        NanoSigns n = with(places(-9, 3, 9, 3), places(0, 0, 25, 0, 0), places(-9, 9, 9, 8));
        for (int i = 3; i < shapes; i++) {
            n.segment(i, 50, i, 60);
        }
        for (int i = 0; i < corners; i++) {
            n.corner(i, i * i);
        }
        n.cross(0, 1);
        return n;
    }

    private static String told(NanoSigns n, int shapes) {
        return n.at(0, 0, 0) + " " + n.at(0, 1, 1) + ", " + n.at(1, 0, 2) + " " + n.at(1, 1, 0) + ", " + rest(n, shapes);
    }

    private static String rest(NanoSigns n, int shapes) {
        return area(n) + ", " + fraction(n, 0, 2) + ", " + n.on(0, -9, 3) + " " + n.on(1, 3, -4) + " "
            + n.on(2, 9, 8) + " " + n.on(shapes - 1, shapes - 1, 60) + " " + Due.told(() -> n.on(shapes, 0, 0));
    }

    private static void leavesAlone(Refused r, int shapes, int corners) {
        NanoSigns n = made(shapes, corners);
        String before = told(n, shapes);
        String what = r.what + ", with " + shapes + " shapes";
        Due.is(what, r.due, () -> r.call.answer(n));
        Due.is(what + ", state", before, () -> told(n, shapes));
        if (shapes < 200) {
            Due.is(what + ", next shape", shapes, () -> n.segment(shapes, 50, shapes, 60));
            Due.is(what + ", next corner", true, () -> n.corner(3, -3));
            NanoSigns without = made(shapes + 1, corners);
            without.corner(3, -3);
            Due.is(what + ", state then", told(without, shapes + 1), () -> told(n, shapes + 1));
        }
    }

    private static void refusedCross(String what, String due, OnObject call) {
        NanoSigns n = made(3, 4);
        String before = rest(n, 3);
        Due.is("cross, " + what, due, () -> call.answer(n));
        Due.fails("cross, " + what + ", nothing is crossed", ISE, () -> n.at(0, 0, 0));
        Due.is("cross, " + what + ", the rest", before, () -> rest(n, 3));
        Due.is("cross, " + what + ", next shape", 3, () -> n.segment(0, 0, 1, 1));
    }

    private static void whatIsFull() {
        NanoSigns n = made(200, 200);
        String before = told(n, 200);
        Due.is("segment, full", -1, () -> n.segment(0, 0, 1, 1));
        Due.is("arc, full", -1, () -> n.arc(0, 0, 1, 0, 0));
        Due.is("corner, full", false, () -> n.corner(-E, E));
        Due.is("full, state", before, () -> told(n, 200));
    }
}
