import java.io.IOException;
import java.lang.reflect.Method;
import java.lang.reflect.Modifier;
import java.nio.charset.StandardCharsets;
import java.nio.file.Files;
import java.nio.file.Path;
import java.util.List;
import java.util.TreeSet;
import java.util.regex.Matcher;
import java.util.regex.Pattern;
import java.util.stream.Collectors;
import java.util.stream.Stream;

/** README.md's examples answer as it says, and it leaves out no call and no test. */
public final class ReadmeTest {
    private static final Checks C = new Checks("README.md");
    private static final Pattern BLOCK = Pattern.compile("(?ms)^```java\n(.*?)^```$");
    private static final Pattern MADE = Pattern.compile("KerbBall ball = new KerbBall\\(\\);");
    private static final Pattern CALL = Pattern.compile("ball\\.(\\w+)\\(([^()]*)\\); +// (-?\\d+)(: .+)?");
    private static final Pattern FACE = Pattern.compile("(?m)^ +public (?:int|long) (\\w+)\\(([^)]*)\\);");

    public static void main(String[] args) throws Exception {
        String readme = textOf("README.md");
        TreeSet<String> shown = new TreeSet<>();
        Matcher block = BLOCK.matcher(readme);
        while (block.find()) {
            run(block.group(1), shown);
        }
        for (Method m : KerbBall.class.getDeclaredMethods()) {
            if (Modifier.isPublic(m.getModifiers())) {
                C.isTrue("an example of " + m.getName(), shown.contains(m.getName()));
            }
        }
        callsOfTheFace(readme);
        tests(readme);
        C.end();
    }

    private static String textOf(String file) throws IOException {
        return Files.readString(Path.of(file), StandardCharsets.UTF_8);
    }

    /** Each row is a new object or a call with its answer; there is no other row. */
    private static void run(String rows, TreeSet<String> shown) throws Exception {
        KerbBall ball = null;
        for (String row : rows.split("\n")) {
            Matcher call = CALL.matcher(row);
            if (MADE.matcher(row).matches()) {
                ball = new KerbBall();
            } else if (ball != null && call.matches()) {
                shown.add(call.group(1));
                C.same(row, answer(ball, call.group(1), call.group(2)), Long.parseLong(call.group(3)));
            } else {
                C.isTrue("a row that can't be run: " + row, false);
            }
        }
    }

    private static long answer(KerbBall ball, String name, String numbers) throws Exception {
        String[] told = numbers.isEmpty() ? new String[0] : numbers.split(", ");
        for (Method m : KerbBall.class.getMethods()) {
            if (m.getName().equals(name) && m.getParameterCount() == told.length) {
                Object[] given = new Object[told.length];
                for (int i = 0; i < told.length; i++) {
                    long n = numberOf(told[i]);
                    given[i] = m.getParameterTypes()[i] == long.class ? (Object) n : (Object) Math.toIntExact(n);
                }
                return ((Number) m.invoke(ball, given)).longValue();
            }
        }
        throw new IllegalArgumentException("no call " + name);
    }

    private static long numberOf(String told) {
        if (told.equals("KerbBall.NONE")) {
            return KerbBall.NONE;
        }
        return told.startsWith("0x") ? Long.parseUnsignedLong(told.substring(2).replace("L", ""), 16) : Long.parseLong(told);
    }

    /** The table has a row for each call of the document's face, by its own names, and no other. */
    private static void callsOfTheFace(String readme) throws IOException {
        TreeSet<String> due = new TreeSet<>();
        Matcher face = FACE.matcher(textOf("../shared/DOC.md"));
        while (face.find()) {
            due.add(face.group(1) + "(" + face.group(2).replaceAll("(int|long) ", "") + ")");
        }
        TreeSet<String> got = new TreeSet<>();
        Matcher row = Pattern.compile("(?m)^\\| `([^`]*\\))` +\\|").matcher(readme);
        while (row.find()) {
            got.add(row.group(1));
        }
        C.same("calls of the document", due.size(), 37);
        C.isTrue("the table: due " + due + ", is " + got, due.equals(got));
    }

    private static void tests(String readme) throws IOException {
        C.isTrue("how the tests are run", readme.contains(".ci/run"));
        try (Stream<Path> all = Files.list(Path.of("src/test/java"))) {
            List<String> names = all.map(p -> p.getFileName().toString().replace(".java", "")).sorted().collect(Collectors.toList());
            for (String name : names) {
                C.isTrue("tells of " + name, readme.contains("`" + name + "`") || readme.contains("`" + name + ".java`"));
            }
            Matcher told = Pattern.compile("`(\\w+Test)`").matcher(readme);
            while (told.find()) {
                C.isTrue(told.group(1) + " is there", names.contains(told.group(1)));
            }
        }
    }
}
