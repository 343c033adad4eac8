import java.io.ByteArrayOutputStream;
import java.io.IOException;
import java.io.OutputStream;
import java.io.Writer;
import java.lang.reflect.Method;
import java.net.URI;
import java.net.URL;
import java.net.URLClassLoader;
import java.nio.file.Files;
import java.nio.file.Path;
import java.util.ArrayList;
import java.util.HashMap;
import java.util.List;
import java.util.Map;
import java.util.concurrent.ConcurrentHashMap;
import javax.tools.FileObject;
import javax.tools.ForwardingJavaFileManager;
import javax.tools.JavaCompiler;
import javax.tools.JavaFileManager;
import javax.tools.JavaFileObject;
import javax.tools.SimpleJavaFileObject;
import javax.tools.StandardJavaFileManager;
import javax.tools.ToolProvider;

/** Breaks the class in the ways that each sentence tells, and looks whether the sentence's own test fails then. */
public final class BrokenTest {
    private static final Path SOURCE = Path.of("src/main/java/MistHeaps.java");
    private static final JavaCompiler COMPILER = ToolProvider.getSystemJavaCompiler();
    // One for each thread, as it keeps what it has read of the library.
    private static final ThreadLocal<StandardJavaFileManager> LIBRARY =
        ThreadLocal.withInitial(() -> COMPILER.getStandardFileManager(null, null, null));

    private final String source;
    private final Map<String, Map<String, Made>> compiled = new ConcurrentHashMap<>();

    private BrokenTest(String source) {
        this.source = source;
    }

    /** One change of the class, and the number of the sentence whose test must fail by it. */
    private record Change(int number, String words, String from, String to) {
    }

    public static void main(String[] args) throws IOException {
        BrokenTest test = new BrokenTest(Files.readString(SOURCE));
        List<Change> changes = changes();
        List<String> wrong = changes.parallelStream().map(test::look).toList();
        for (int i = 0; i < changes.size(); i++) {
            Checks.due(changes.get(i).words() + wrong.get(i) + " and so", wrong.get(i).isEmpty() ? 1 : 0, 1);
        }
        Checks.end("BrokenTest");
    }

    private static List<Change> changes() {
        List<Change> changes = new ArrayList<>();
        List<Sentence> all = Sentences.all();
        for (int number = 0; number < all.size(); number++) {
            Sentence one = all.get(number);
            int many = one.changes().length;
            String words = "section " + one.section() + ", \"" + one.words() + "\"";
            Checks.due(words + " tells how it can be broken", many >= 2 && many % 2 == 0 ? 1 : 0, 1);
            for (int i = 0; i + 1 < many; i += 2) {
                changes.add(new Change(number, words, one.changes()[i], one.changes()[i + 1]));
            }
        }
        return changes;
    }

    /** What is wrong with the sentence's test; nothing, if it fails as it must. */
    private String look(Change change) {
        int at = source.indexOf(change.from());
        if (at < 0) return ": the class has no text " + change.from();
        if (source.indexOf(change.from(), at + 1) >= 0) return ": the class has more than once " + change.from();
        String broken = source.substring(0, at) + change.to() + source.substring(at + change.from().length());
        Map<String, Made> classes = compiled.computeIfAbsent(broken, BrokenTest::compile);
        if (classes.isEmpty()) return ": does not compile with " + change.to();
        return fails(classes, change.number()) ? "" : ": the test holds with " + change.to() + " for " + change.from();
    }

    private static boolean fails(Map<String, Made> classes, int number) {
        URL tests = BrokenTest.class.getProtectionDomain().getCodeSource().getLocation();
        try (Loader loader = new Loader(tests, classes)) {
            Method method = loader.loadClass("SentencesTest").getDeclaredMethod("fails", int.class);
            method.setAccessible(true);
            return (boolean) method.invoke(null, number);
        } catch (ReflectiveOperationException | IOException thrown) {
            throw new IllegalStateException(thrown);
        }
    }

    /** The classes by their names; none, if it does not compile. */
    private static Map<String, Made> compile(String text) {
        Map<String, Made> made = new HashMap<>();
        JavaFileManager files = new ForwardingJavaFileManager<JavaFileManager>(LIBRARY.get()) {
            @Override
            public JavaFileObject getJavaFileForOutput(Location place, String name, JavaFileObject.Kind kind, FileObject from) {
                return made.computeIfAbsent(name, Made::new);
            }
        };
        List<String> options = List.of("-proc:none", "-nowarn");
        boolean done = COMPILER.getTask(Writer.nullWriter(), files, problem -> { }, options, null, List.of(new Text(text))).call();
        return done ? made : Map.of();
    }

    /** The broken class's text. */
    private static final class Text extends SimpleJavaFileObject {
        private final String text;

        Text(String text) {
            super(URI.create("string:///MistHeaps.java"), Kind.SOURCE);
            this.text = text;
        }

        @Override
        public CharSequence getCharContent(boolean ignoreEncodingErrors) {
            return text;
        }
    }

    /** A class as it was compiled. */
    private static final class Made extends SimpleJavaFileObject {
        private final ByteArrayOutputStream bytes = new ByteArrayOutputStream();

        Made(String name) {
            super(URI.create("mem:///" + name + ".class"), Kind.CLASS);
        }

        @Override
        public OutputStream openOutputStream() {
            return bytes;
        }
    }

    /** Finds the broken classes ahead of the tests' place, where the sound ones are. */
    private static final class Loader extends URLClassLoader {
        private final Map<String, Made> classes;

        Loader(URL tests, Map<String, Made> classes) {
            super(new URL[] {tests}, ClassLoader.getPlatformClassLoader());
            this.classes = classes;
        }

        @Override
        protected Class<?> findClass(String name) throws ClassNotFoundException {
            Made made = classes.get(name);
            if (made == null) return super.findClass(name);
            byte[] bytes = made.bytes.toByteArray();
            return defineClass(name, bytes, 0, bytes.length);
        }
    }
}
