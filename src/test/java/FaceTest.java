import java.io.IOException;
import java.lang.reflect.Constructor;
import java.lang.reflect.Field;
import java.lang.reflect.Method;
import java.lang.reflect.Modifier;
import java.nio.file.Files;
import java.nio.file.Path;
import java.util.Set;
import java.util.TreeSet;
import java.util.regex.Matcher;
import java.util.regex.Pattern;

/** The public face as the document writes it, and what of LANGUAGE.md can be looked up in the file. */
public final class FaceTest {
    private static final Path DOCUMENT = Path.of("../shared/DOC.md");
    private static final Path SOURCE = Path.of("src/main/java/MistHeaps.java");

    private FaceTest() {
    }

    public static void main(String[] args) throws IOException {
        String document = Files.readString(DOCUMENT);
        methods(document);
        constants();
        classes();
        words(bare(Files.readString(SOURCE)));
        Checks.end("FaceTest");
    }

    private static void is(String what, boolean so) {
        Checks.due(what, so ? 1 : 0, 1);
    }

    private static void methods(String document) {
        Set<String> due = new TreeSet<>();
        Matcher heads = Pattern.compile("(?m)^    public (int|long) (\\w+)\\(([^)]*)\\);$").matcher(document);
        while (heads.find()) {
            String types = heads.group(3).replaceAll(" \\w+(?=,|$)", "");
            due.add(heads.group(1) + " " + heads.group(2) + "(" + types + ")");
        }
        Checks.due("methods in the document", due.size(), 30);
        Set<String> got = new TreeSet<>();
        Set<String> names = new TreeSet<>();
        for (Method method : MistHeaps.class.getDeclaredMethods()) {
            if (Modifier.isPrivate(method.getModifiers()) || method.isSynthetic()) continue;
            is(method + " is public and not static", method.getModifiers() == Modifier.PUBLIC);
            got.add(signature(method));
            names.add(method.getName());
        }
        is("the methods " + got + " are " + due, got.equals(due));
        for (Class<?> one : withNested()) {
            for (Method method : one.getDeclaredMethods()) {
                boolean hidden = !Modifier.isPublic(method.getModifiers()) && !method.isSynthetic();
                if (hidden) is(method + " bears no public name", !names.contains(method.getName()));
            }
        }
    }

    private static String signature(Method method) {
        StringBuilder text = new StringBuilder(method.getReturnType() + " " + method.getName() + "(");
        for (int i = 0; i < method.getParameterCount(); i++) {
            text.append(i == 0 ? "" : ", ").append(method.getParameterTypes()[i]);
        }
        return text.append(")").toString();
    }

    private static void constants() {
        Set<String> got = new TreeSet<>();
        for (Field field : MistHeaps.class.getDeclaredFields()) {
            if (Modifier.isPrivate(field.getModifiers())) continue;
            is(field + " is public, static and final",
                field.getModifiers() == (Modifier.PUBLIC | Modifier.STATIC | Modifier.FINAL));
            got.add(field.getType() + " " + field.getName());
        }
        is("the constants " + got, got.equals(Set.of("int NONE", "int BAD", "int STATE", "int FULL", "long NO")));
        Checks.due("NONE", MistHeaps.NONE, -1);
        Checks.due("BAD", MistHeaps.BAD, -2);
        Checks.due("STATE", MistHeaps.STATE, -3);
        Checks.due("FULL", MistHeaps.FULL, -4);
        Checks.due("NO", MistHeaps.NO, Long.MIN_VALUE);
    }

    private static Class<?>[] withNested() {
        Class<?>[] nested = MistHeaps.class.getDeclaredClasses();
        Class<?>[] all = new Class<?>[nested.length + 1];
        System.arraycopy(nested, 0, all, 0, nested.length);
        all[nested.length] = MistHeaps.class;
        return all;
    }

    private static void classes() {
        Constructor<?>[] made = MistHeaps.class.getDeclaredConstructors();
        is("one public constructor without parameters", made.length == 1
            && made[0].getModifiers() == Modifier.PUBLIC && made[0].getParameterCount() == 0);
        is("public and final", MistHeaps.class.getModifiers() == (Modifier.PUBLIC | Modifier.FINAL));
        is("twelve classes at most", withNested().length <= 12);
        for (Class<?> one : withNested()) {
            int fields = 0;
            for (Field field : one.getDeclaredFields()) {
                boolean fixed = Modifier.isStatic(field.getModifiers());
                fields += fixed ? 0 : 1;
                if (fixed) is(field + " is final", Modifier.isFinal(field.getModifiers()));
            }
            is(one + " has twenty fields at most", fields <= 20);
            for (Method method : one.getDeclaredMethods()) {
                is(method + " has seven parameters at most", method.getParameterCount() <= 7);
            }
            if (one == MistHeaps.class) continue;
            is(one + " is static", Modifier.isStatic(one.getModifiers()));
            is(one + " is not public", !Modifier.isPublic(one.getModifiers()) && !Modifier.isProtected(one.getModifiers()));
        }
    }

    private static String bare(String source) {
        return source.replaceAll("(?s)/\\*.*?\\*/", " ").replaceAll("//[^\n]*", " ").replaceAll("\"[^\"\n]*\"", "\"\"");
    }

    private static void words(String source) {
        String[] forbidden = {"throw", "throws", "try", "catch", "finally", "synchronized", "assert", "package", "Object",
            "hashCode", "toString", "System\\.(?!arraycopy)\\w+", "Math\\.\\w+Exact", "Thread", "Random", "volatile", "native"};
        for (String word : forbidden) is("no " + word, !Pattern.compile("\\b" + word + "\\b").matcher(source).find());
        for (String sign : new String[] {"->", "::", "@", "\" +", "+ \""}) is("no " + sign, !source.contains(sign));
        Matcher imports = Pattern.compile("(?m)^import ([^;]+);").matcher(source);
        while (imports.find()) is("import " + imports.group(1), imports.group(1).matches("java\\.util\\.(ArrayList|List|Arrays)"));
    }
}
