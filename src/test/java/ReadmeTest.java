import java.io.IOException;
import java.lang.reflect.Method;
import java.lang.reflect.Modifier;
import java.math.BigInteger;
import java.nio.file.Files;
import java.nio.file.Path;
import java.util.ArrayList;
import java.util.HashSet;
import java.util.List;
import java.util.Set;
import java.util.regex.Matcher;
import java.util.regex.Pattern;

/** README.md's examples answer what stands behind them, and README.md tells of every call. */
public final class ReadmeTest {
    private static final Path README = Path.of("README.md");
    private static final Path SELF = Path.of("src", "test", "java", "ReadmeTest.java");

    private ReadmeTest() {
    }

    public static void main(String[] args) throws IOException {
        NanoSigns n = new NanoSigns();
        runShapes(n);
        runLimbs(n);
        checkExamplesAreRun();
        checkEveryCallIsTold();
        Due.end();
    }

    private static void runShapes(NanoSigns n) throws IOException {
        int line = n.segment(-9, 3, 9, 3);
        int circle = n.arc(0, 0, 25, 0, 0);
        int quarter = n.arc(0, 0, 25, 0, 2);
        int points = n.cross(line, circle);
        long x = n.at(0, 0, 2);
        int fewer = n.cross(line, quarter);
        boolean there = n.on(quarter, 3, 4);
        int side = n.turn(0, 0, 4, 0, 9, 1);
        int sign = n.compare(1, 1, 2, 2);
        long half = n.over(-7, 2, 2);
        long root = n.root(8, 1);
        told("line", line);
        told("circle", circle);
        told("quarter", quarter);
        told("points", points);
        told("x", x);
        told("fewer", fewer);
        Due.is("at of the later crossing", 4, () -> n.at(0, 0, 2));
        told("there", there);
        told("side", side);
        told("sign", sign);
        told("half", half);
        told("root", root);
    }

    /** The answer stands behind its call in README.md, up to a comma or the line's end. */
    private static void told(String name, Object answer) throws IOException {
        Pattern example = Pattern.compile("^\\w+ " + name + " = .*; +// ([^,\n]*)", Pattern.MULTILINE);
        Matcher found = example.matcher(Files.readString(README));
        Due.same(name, found.find() ? found.group(1) : "not in README.md", String.valueOf(answer));
    }

    private static void runLimbs(NanoSigns n) throws IOException {
        String readme = Files.readString(README);
        int steep = n.segment(0, 0, 4, 4);
        int level = n.segment(5, 0, 9, 0);
        BigInteger above = BigInteger.ZERO;
        BigInteger below = BigInteger.ZERO;
        for (int limb = 5; limb >= 0; limb--) {
            above = above.shiftLeft(32).add(BigInteger.valueOf(n.distance(steep, level, 0, limb)));
            below = below.shiftLeft(32).add(BigInteger.valueOf(n.distance(steep, level, 1, limb)));
        }
        String distance = "// above " + above + ", below " + below + ":";
        Due.is(distance, true, () -> readme.contains(distance));

        n.corner(0, 0);
        n.corner(4, 4);
        n.corner(4, 0);
        BigInteger twice = BigInteger.ZERO;
        for (int limb = 3; limb >= 0; limb--) {
            twice = twice.shiftLeft(32).add(BigInteger.valueOf(n.area(limb)));
        }
        twice = twice.testBit(127) ? twice.subtract(BigInteger.ONE.shiftLeft(128)) : twice;
        String area = "// twice " + twice + ":";
        Due.is(area, true, () -> readme.contains(area));

        n.clear();
        Due.is("area when cleared", 0, () -> n.area(0));
        Due.is("segment when cleared", 0, () -> n.segment(0, 0, 1, 0));
    }

    /** So an example that is changed in README.md alone is found out. */
    private static void checkExamplesAreRun() throws IOException {
        Set<String> run = new HashSet<>();
        for (String line : Files.readAllLines(SELF)) {
            run.add(line.strip());
        }
        List<String> examples = exampleLines();
        Due.is("README.md has examples", true, () -> examples.size() > 20);
        for (String line : examples) {
            Due.is("run here: " + line, true, () -> run.contains(line));
        }
    }

    private static List<String> exampleLines() throws IOException {
        List<String> lines = new ArrayList<>();
        boolean inside = false;
        for (String line : Files.readAllLines(README)) {
            if (line.startsWith("```")) {
                inside = line.equals("```java");
            } else if (inside) {
                int comment = line.indexOf("//");
                lines.add((comment < 0 ? line : line.substring(0, comment)).strip());
            }
        }
        return lines;
    }

    private static void checkEveryCallIsTold() throws IOException {
        String readme = Files.readString(README);
        for (Method m : NanoSigns.class.getDeclaredMethods()) {
            if (Modifier.isPublic(m.getModifiers())) {
                Due.is("README.md tells of " + m.getName(), true,
                    () -> readme.contains("| `" + m.getName() + "("));
            }
        }
    }
}
