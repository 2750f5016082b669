import java.lang.reflect.Constructor;
import java.lang.reflect.Field;
import java.lang.reflect.Method;
import java.lang.reflect.Modifier;
import java.nio.file.Files;
import java.nio.file.Path;
import java.util.ArrayList;
import java.util.Collections;
import java.util.HashSet;
import java.util.List;
import java.util.Set;
import java.util.regex.Matcher;
import java.util.regex.Pattern;

/** The public face as the document writes it, and what ../shared/LANGUAGE.md rules out that can be read off. */
public final class FaceTest {
    private static final Path DOC = Path.of("../shared/DOC.md");
    private static final Path SOURCE = Path.of("src/main/java/Twoshadows.java");
    private static final String[] RULED_OUT = {"->", "::", "\\bcatch\\b", "\\btry\\b", "\\bfinally\\b",
        "\\bassert\\b", "\\bsynchronized\\b", "\\bpackage\\b", "\\bObject\\b", "\\bSystem\\.(?!arraycopy)",
        "Exact\\(", "\\bMath\\.(?!min|max|abs|floorDiv|floorMod)", "\\bwhile\\s*\\(true\\)", "\\bprotected\\b",
        "\\bHashMap\\b", "\\bString\\.", "\\bvar\\b", "\\bprintln\\b", "[^\\x00-\\x7f]"};

    private FaceTest() {
    }

    public static void main(String[] args) throws Exception {
        faceIsThatOfTheDocument();
        classesInsideAreHidden();
        privateNamesAreOthers();
        nothingRuledOut();
        objectsAreSmall();
        Check.end("FaceTest");
    }

    private static void faceIsThatOfTheDocument() throws Exception {
        Matcher block = Pattern.compile("public final class Twoshadows \\{\n(.*?)\n\\}", Pattern.DOTALL)
            .matcher(Files.readString(DOC));
        List<String> due = new ArrayList<>();
        if (block.find()) {
            for (String line : block.group(1).split("\n")) {
                due.add(line.trim().replaceAll("\\b(int|boolean) \\w+(?=[,)])", "$1").replace(";", ""));
            }
        }
        List<String> got = new ArrayList<>();
        for (Constructor<?> one : Twoshadows.class.getDeclaredConstructors()) {
            got.add(shown(one.getModifiers()) + "Twoshadows" + listed(one.getParameterTypes())
                + thrown(one.getExceptionTypes()));
        }
        for (Method one : Twoshadows.class.getDeclaredMethods()) {
            if (!Modifier.isPrivate(one.getModifiers())) {
                got.add(shown(one.getModifiers()) + one.getReturnType().getSimpleName() + " " + one.getName()
                    + listed(one.getParameterTypes()) + thrown(one.getExceptionTypes()));
            }
        }
        for (Field one : Twoshadows.class.getDeclaredFields()) {
            Check.same("private " + one.getName(), Modifier.isPrivate(one.getModifiers()), true);
        }
        Collections.sort(due);
        Collections.sort(got);
        Check.same("size of the face", due.size(), 28);
        Check.same("face", got, due);
        Check.same("class", Modifier.toString(Twoshadows.class.getModifiers()), "public final");
    }

    private static String shown(int modifiers) {
        return Modifier.toString(modifiers) + " ";
    }

    private static String listed(Class<?>[] types) {
        return "(" + names(types) + ")";
    }

    private static String thrown(Class<?>[] types) {
        return types.length == 0 ? "" : " throws " + names(types);
    }

    private static String names(Class<?>[] types) {
        List<String> names = new ArrayList<>();
        for (Class<?> type : types) {
            names.add(type.getSimpleName());
        }
        return String.join(", ", names);
    }

    private static void classesInsideAreHidden() {
        Class<?>[] inside = Twoshadows.class.getDeclaredClasses();
        Check.same("at most twelve classes", inside.length < 12, true);
        for (Class<?> one : inside) {
            Check.same(one.getSimpleName() + " is private and static",
                Modifier.isPrivate(one.getModifiers()) && Modifier.isStatic(one.getModifiers()), true);
            int fields = 0;
            for (Field field : one.getDeclaredFields()) {
                fields += Modifier.isStatic(field.getModifiers()) ? 0 : 1;
            }
            Check.same(one.getSimpleName() + " has at most twenty fields", fields <= 20, true);
        }
    }

    private static void privateNamesAreOthers() {
        Set<String> names = new HashSet<>();
        for (Method one : Twoshadows.class.getDeclaredMethods()) {
            if (Modifier.isPublic(one.getModifiers())) {
                names.add(one.getName());
            }
        }
        List<Method> hidden = new ArrayList<>();
        for (Method one : Twoshadows.class.getDeclaredMethods()) {
            if (!Modifier.isPublic(one.getModifiers())) {
                hidden.add(one);
            }
        }
        for (Class<?> inside : Twoshadows.class.getDeclaredClasses()) {
            Collections.addAll(hidden, inside.getDeclaredMethods());
        }
        for (Method one : hidden) {
            Check.same("another name than " + one.getName(), names.contains(one.getName()), false);
            Check.same("at most seven parameters of " + one.getName(), one.getParameterCount() <= 7, true);
        }
    }

    private static void nothingRuledOut() throws Exception {
        String code = Files.readString(SOURCE).replaceAll("(?s)/\\*.*?\\*/", "").replaceAll("//[^\n]*", "");
        for (String pattern : RULED_OUT) {
            Check.same("source has " + pattern, Pattern.compile(pattern).matcher(code).find(), false);
        }
        Matcher imports = Pattern.compile("import ([^;]*);").matcher(code);
        while (imports.find()) {
            Check.same("import", imports.group(1), "java.util.Arrays");
        }
        Matcher made = Pattern.compile("throw (?!new \\w+Exception\\(\"[^\"]+\"\\);)").matcher(code);
        Check.same("another throw than of a new exception with a written text", made.find(), false);
    }

    /** One room holds 7.3 million fields and elements for all calls: only a constructor may make long rows. */
    private static void objectsAreSmall() throws Exception {
        String code = Files.readString(SOURCE);
        Matcher made = Pattern.compile("\\n( *)([^\\n]*)new (int|long|char|byte)\\[").matcher(code);
        while (made.find()) {
            Check.same("a row made by a field's initialiser: " + made.group(2),
                made.group(2).matches("(private )?final int\\[\\] \\w+ = "), true);
        }
    }
}
