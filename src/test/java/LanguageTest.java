import java.lang.reflect.Constructor;
import java.lang.reflect.Field;
import java.lang.reflect.Method;
import java.lang.reflect.Modifier;
import java.nio.charset.StandardCharsets;
import java.nio.file.Files;
import java.nio.file.Path;
import java.util.ArrayList;
import java.util.List;
import java.util.TreeSet;
import java.util.regex.Matcher;
import java.util.regex.Pattern;

/** The face as the document has it, and what can be looked at of ../shared/LANGUAGE.md. */
public final class LanguageTest {
    private static final Checks C = new Checks("language");
    private static final String[] FORBIDDEN = {"\\bthrow\\b", "\\bthrows\\b", "\\btry\\b", "\\bcatch\\b", "\\bsynchronized\\b",
        "\\bassert\\b", "->", "::", "\\bpackage\\b", "\\bprotected\\b", "\\bvar\\b", "\\byield\\b", "\\brecord\\b", "\\bObject\\b",
        "Exact\\b", "\\bhashCode\\b", "\\btoString\\b", "\\bSystem\\.(?!arraycopy\\b)", "\\bRandom\\b", "\\bThread\\b", "@",
        "\\bString\\.", "\\binstanceof\\b", "\\bvolatile\\b", "\\btransient\\b", "\\bstatic\\s*\\{"};

    public static void main(String[] args) throws Exception {
        String source = Files.readString(Path.of("src/main/java/KerbBall.java"), StandardCharsets.UTF_8);
        String plain = withoutCommentsAndTexts(source);
        face();
        members();
        for (String f : FORBIDDEN) {
            C.isTrue("no " + f, !Pattern.compile(f).matcher(plain).find());
        }
        C.isTrue("signs below 128", source.chars().allMatch(c -> c < 128));
        imports(plain);
        C.isTrue("twelve classes at most", Pattern.compile("\\bclass\\b").matcher(plain).results().count() <= 12);
        methodLengths(plain);
        madeWithTheObject(plain);
        C.end();
    }

    private static String withoutCommentsAndTexts(String s) {
        return s.replaceAll("(?s)/\\*.*?\\*/", " ").replaceAll("//[^\n]*", " ")
                .replaceAll("\"(\\\\.|[^\"\\\\])*\"", "\"\"").replaceAll("'(\\\\.|[^'\\\\])'", "''");
    }

    /** The signatures of the document's own block of Java. */
    private static void face() throws Exception {
        String doc = Files.readString(Path.of("../shared/DOC.md"), StandardCharsets.UTF_8);
        TreeSet<String> due = new TreeSet<>();
        Matcher m = Pattern.compile("(?m)^ +public (int|long) (\\w+)\\(([^)]*)\\);").matcher(doc);
        while (m.find()) {
            due.add(m.group(1) + " " + m.group(2) + "(" + m.group(3).replaceAll(" \\w+(?=,|$)", "").replace(" ", "") + ")");
        }
        TreeSet<String> got = new TreeSet<>();
        for (Method x : KerbBall.class.getDeclaredMethods()) {
            if (!Modifier.isPrivate(x.getModifiers())) {
                List<String> types = new ArrayList<>();
                for (Class<?> t : x.getParameterTypes()) {
                    types.add(t.getSimpleName());
                }
                got.add(x.getReturnType().getSimpleName() + " " + x.getName() + "(" + String.join(",", types) + ")");
                C.isTrue("public: " + x, x.getModifiers() == Modifier.PUBLIC);
            }
        }
        C.same("methods of the document", due.size(), 37);
        C.isTrue("the face: due " + due + ", is " + got, due.equals(got));
        C.same("NONE", KerbBall.NONE, -1);
        C.same("BAD", KerbBall.BAD, -2);
        C.same("NO", KerbBall.NO, -3);
        C.same("FULL", KerbBall.FULL, -4);
    }

    private static void members() {
        C.same("public and final", KerbBall.class.getModifiers() & (Modifier.PUBLIC | Modifier.FINAL), Modifier.PUBLIC | Modifier.FINAL);
        Constructor<?>[] made = KerbBall.class.getDeclaredConstructors();
        C.isTrue("one public constructor", made.length == 1 && Modifier.isPublic(made[0].getModifiers()));
        TreeSet<String> names = new TreeSet<>();
        for (Method m : KerbBall.class.getDeclaredMethods()) {
            if (Modifier.isPublic(m.getModifiers())) {
                names.add(m.getName());
            }
        }
        int fields = 0;
        for (Field f : KerbBall.class.getDeclaredFields()) {
            boolean told = Modifier.isPublic(f.getModifiers()) && List.of("NONE", "BAD", "NO", "FULL").contains(f.getName());
            C.isTrue("private or told: " + f, told || Modifier.isPrivate(f.getModifiers()));
            fields += Modifier.isStatic(f.getModifiers()) ? 0 : 1;
        }
        C.isTrue("twenty fields at most", fields <= 20);
        privateNames(KerbBall.class, names);
        for (Class<?> inner : KerbBall.class.getDeclaredClasses()) {
            C.isTrue("static and not public: " + inner, Modifier.isStatic(inner.getModifiers()) && !Modifier.isPublic(inner.getModifiers()));
            privateNames(inner, names);
            for (Field f : inner.getDeclaredFields()) {
                C.isTrue("static fields final: " + f, !Modifier.isStatic(f.getModifiers()) || Modifier.isFinal(f.getModifiers()));
            }
        }
    }

    private static void privateNames(Class<?> c, TreeSet<String> names) {
        for (Method m : c.getDeclaredMethods()) {
            C.isTrue("bears no public name: " + m, Modifier.isPublic(m.getModifiers()) || !names.contains(m.getName()));
            C.isTrue("seven parameters at most: " + m, m.getParameterCount() <= 7);
        }
    }

    private static void imports(String plain) {
        Matcher m = Pattern.compile("import ([\\w.]+);").matcher(plain);
        while (m.find()) {
            C.isTrue("import " + m.group(1), List.of("java.util.Arrays", "java.util.ArrayList", "java.util.List").contains(m.group(1)));
        }
        m = Pattern.compile("\\b(Arrays|Math)\\.(\\w+)").matcher(plain);
        while (m.find()) {
            C.isTrue(m.group(), List.of("fill", "copyOf", "copyOfRange", "max", "min", "abs").contains(m.group(2))
                    || m.group().equals("Arrays;"));
        }
    }

    /** All calls of a run live in one room: what is made is made in a field's own line, none in a call. */
    private static void madeWithTheObject(String plain) {
        for (String line : plain.split("\n")) {
            if (Pattern.compile("\\bnew\\b|\\.clone\\(|copyOf").matcher(line).find()) {
                C.isTrue("made with the object: " + line.trim(), line.matches(" +(private )?final \\S+ \\w+ = .*;"));
            }
        }
        C.isTrue("no text is joined", !Pattern.compile("\"\\s*\\+|\\+\\s*\"|\\bStringBuilder\\b").matcher(plain).find());
    }

    private static void methodLengths(String plain) {
        String[] lines = plain.split("\n");
        Pattern head = Pattern.compile("^( +)(public |private )?(static )?[\\w\\[\\]]+ \\w+\\([^;]*\\) \\{$");
        for (int i = 0; i < lines.length; i++) {
            Matcher m = head.matcher(lines[i]);
            if (m.matches() && !lines[i].trim().startsWith("return") && !lines[i].trim().startsWith("else")) {
                int end = i;
                while (end < lines.length && !lines[end].equals(m.group(1) + "}")) {
                    end++;
                }
                C.isTrue("sixty lines at most: " + lines[i].trim(), end - i <= 60);
            }
        }
    }
}
