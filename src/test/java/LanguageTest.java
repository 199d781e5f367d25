import java.lang.reflect.Constructor;
import java.lang.reflect.Field;
import java.lang.reflect.Method;
import java.lang.reflect.Modifier;
import java.nio.charset.StandardCharsets;
import java.nio.file.Files;
import java.nio.file.Path;
import java.util.Arrays;
import java.util.List;
import java.util.Set;
import java.util.TreeSet;
import java.util.regex.Matcher;
import java.util.regex.Pattern;
import java.util.stream.Collectors;

/** What of LANGUAGE.md can be looked at from outside: the face, and the source as a text. */
public final class LanguageTest {
    private static final String FACE = "feed(IIIII)I end(I)Z fault()I text()I step(III)I steps(I)I lay(II)Z ask(II)I"
        + " shown(II)I cell(IZ)I put(III)Z secret(II)Z law(III)I may(III)I barred(III)I work(III)Z word(IIII)Z"
        + " lawful(IJ)I words(IJ)I price(IJI)I free(II)I least(III)J twice(III)I better(II)J cost(IJI)I day(I)I"
        + " night()I daily(IJI)I leastDay(III)J moved(IJJ)I length(III)Z speed(II)Z await(IJ)I led(IJI)I"
        + " parts(IJJ)I part(II)I turn(I)I on(IJI)I away(I)Z act(ZIII)Z back()I asked()I choose(IZ)Z count(I)I";
    private static int wrong = 0;

    private static void fail(String what) {
        wrong++;
        System.out.println(what);
    }

    public static void main(String[] args) throws Exception {
        face();
        String source = Files.readString(Path.of("src/main/java/ManyPlaces.java"), StandardCharsets.ISO_8859_1);
        words(source);
        methods(source);
        System.out.println(wrong == 0 ? "the rules that can be seen are kept" : wrong + " rules are broken");
        if (wrong != 0) {
            System.exit(1);
        }
    }

    private static String shape(Method m) {
        return m.getName() + Arrays.stream(m.getParameterTypes()).map(LanguageTest::sign)
            .collect(Collectors.joining("", "(", ")")) + sign(m.getReturnType());
    }

    private static String sign(Class<?> c) {
        return c == int.class ? "I" : c == long.class ? "J" : c == boolean.class ? "Z" : c.getName();
    }

    private static void face() {
        Class<?> c = ManyPlaces.class;
        if (!Modifier.isPublic(c.getModifiers()) || !Modifier.isFinal(c.getModifiers())) {
            fail("the class is not public and final");
        }
        Set<String> want = new TreeSet<>(List.of(FACE.split(" ")));
        Set<String> got = new TreeSet<>();
        Set<String> names = new TreeSet<>();
        for (Method m : c.getDeclaredMethods()) {
            if (Modifier.isPublic(m.getModifiers())) {
                got.add(shape(m));
                names.add(m.getName());
            }
        }
        if (!want.equals(got)) {
            fail("the face is " + got);
        }
        for (Method m : c.getDeclaredMethods()) {
            boolean open = Modifier.isPublic(m.getModifiers());
            if (!open && (!Modifier.isPrivate(m.getModifiers()) || names.contains(m.getName()))) {
                fail("method " + m);
            }
        }
        for (Field f : c.getDeclaredFields()) {
            if (!Modifier.isPrivate(f.getModifiers()) && !f.getName().equals("NONE")) {
                fail("field " + f);
            }
            if (Modifier.isStatic(f.getModifiers()) && !Modifier.isFinal(f.getModifiers())) {
                fail("static field " + f);
            }
        }
        Constructor<?>[] made = c.getDeclaredConstructors();
        if (made.length != 1 || made[0].getParameterCount() != 0 || !Modifier.isPublic(made[0].getModifiers())) {
            fail("constructors");
        }
        for (Class<?> inner : c.getDeclaredClasses()) {
            if (!Modifier.isStatic(inner.getModifiers()) || Modifier.isPublic(inner.getModifiers())) {
                fail("class " + inner);
            }
            for (Method m : inner.getDeclaredMethods()) {
                if (names.contains(m.getName())) {
                    fail("method " + m + " bears a public one's name");
                }
            }
        }
        if (c.getDeclaredClasses().length > 11) {
            fail("more than twelve classes");
        }
    }

    private static void words(String source) {
        String bare = source.replaceAll("/\\*(?s:.*?)\\*/|//.*", "");
        for (String not : List.of("->", "::", "Exact", "\\bcatch\\b", "\\btry\\b", "\\bfinally\\b", "\\bsynchronized\\b",
            "\\bassert\\b", "\\bwhile\\b", "\\bpackage\\b", "\\bSystem\\.(?!arraycopy)", "\\bRandom\\b", "\\bThread\\b",
            "\\bdouble\\b", "\\bfloat\\b", "@Override", "\\bequals\\b", "\\bhashCode\\b", "\\btoString\\b")) {
            Matcher m = Pattern.compile(not).matcher(bare);
            if (m.find()) {
                fail("the source has " + m.group());
            }
        }
        Matcher imports = Pattern.compile("import ([^;]*);").matcher(bare);
        while (imports.find()) {
            if (!Set.of("java.util.Arrays", "java.util.NoSuchElementException").contains(imports.group(1))) {
                fail("import " + imports.group(1));
            }
        }
        Matcher thrown = Pattern.compile("throw new (\\w+)\\(").matcher(bare);
        while (thrown.find()) {
            if (!thrown.group(1).equals("NoSuchElementException")) {
                fail("throws " + thrown.group(1));
            }
        }
        for (int i = 0; i < source.length(); i++) {
            if (source.charAt(i) > 126) {
                fail("a sign above 126 at " + i);
            }
        }
    }

    private static void methods(String source) {
        String[] lines = source.split("\n");
        Pattern head = Pattern.compile("^( {4}| {8})(?:[\\w\\[\\]]+ )+(\\w+)\\((.*)\\)( throws \\w+)? \\{$");
        for (int i = 0; i < lines.length; i++) {
            Matcher m = head.matcher(lines[i]);
            if (!m.matches()) {
                continue;
            }
            int end = i;
            while (!lines[end].equals(m.group(1) + "}")) {
                end++;
            }
            if (end - i > 60) {
                fail(m.group(2) + " is " + (end - i) + " lines long");
            }
            if (m.group(3).split(",").length > 7) {
                fail(m.group(2) + " takes more than seven");
            }
        }
    }
}
