import java.io.ByteArrayOutputStream;
import java.io.IOException;
import java.io.OutputStream;
import java.io.StringWriter;
import java.net.URI;
import java.nio.file.Files;
import java.nio.file.Path;
import java.util.Arrays;
import java.util.HashMap;
import java.util.List;
import java.util.Map;
import java.util.TreeSet;
import javax.tools.FileObject;
import javax.tools.ForwardingJavaFileManager;
import javax.tools.JavaCompiler;
import javax.tools.JavaFileManager;
import javax.tools.JavaFileObject;
import javax.tools.SimpleJavaFileObject;
import javax.tools.ToolProvider;

/**
 * Breaks the class on purpose, one sentence at a time, as src/test/mutants.txt says, and sees that
 * BoundaryTest names the promise that is broken. A change whose text the class no longer has is
 * told, and passed by.
 */
public final class MutantTest {
    private static final Path CLASS_TEXT = Path.of("src/main/java/RegisterDesk.java");
    private static final Path MUTANTS = Path.of("src/test/mutants.txt");
    private static final String NOT_SEEN = "not seen: ";
    private static final String PASSED_BY = "can not be done any more: ";

    private MutantTest() {
    }

    private static final class Source extends SimpleJavaFileObject {
        private final String text;

        Source(String text) {
            super(URI.create("string:///RegisterDesk.java"), Kind.SOURCE);
            this.text = text;
        }

        @Override
        public CharSequence getCharContent(boolean ignoreErrors) {
            return text;
        }
    }

    private static final class Compiled extends SimpleJavaFileObject {
        private final ByteArrayOutputStream bytes = new ByteArrayOutputStream();

        Compiled(String name) {
            super(URI.create("mem:///" + name + ".class"), Kind.CLASS);
        }

        @Override
        public OutputStream openOutputStream() {
            return bytes;
        }
    }

    private static final class Manager extends ForwardingJavaFileManager<JavaFileManager> {
        private final Map<String, Compiled> classes = new HashMap<>();

        Manager(JavaFileManager files) {
            super(files);
        }

        @Override
        public JavaFileObject getJavaFileForOutput(Location place, String name, JavaFileObject.Kind kind, FileObject sibling) {
            Compiled compiled = new Compiled(name);
            classes.put(name, compiled);
            return compiled;
        }
    }

    /** The broken class in place of the right one; the tests anew, for they keep count. */
    private static final class Loader extends ClassLoader {
        private final Map<String, Compiled> classes;

        Loader(Map<String, Compiled> classes) {
            super(ClassLoader.getPlatformClassLoader());
            this.classes = classes;
        }

        @Override
        protected Class<?> findClass(String name) throws ClassNotFoundException {
            byte[] bytes = classes.containsKey(name) ? classes.get(name).bytes.toByteArray() : testClass(name);
            return defineClass(name, bytes, 0, bytes.length);
        }

        private static byte[] testClass(String name) throws ClassNotFoundException {
            try (var in = MutantTest.class.getClassLoader().getResourceAsStream(name + ".class")) {
                if (in == null) {
                    throw new ClassNotFoundException(name);
                }
                return in.readAllBytes();
            } catch (IOException unread) {
                throw new ClassNotFoundException(name, unread);
            }
        }
    }

    private static Map<String, Compiled> compile(JavaCompiler compiler, String text) {
        Manager manager = new Manager(compiler.getStandardFileManager(null, null, null));
        StringWriter complaints = new StringWriter();
        boolean done = compiler.getTask(complaints, manager, null, List.of("-proc:none"), null, List.of(new Source(text))).call();
        return done ? manager.classes : null;
    }

    /** Puts each new text in place of the old one; null, if one does not stand there just once. */
    private static String change(String text, String changes) {
        String changed = text;
        for (String one : changes.split("(?m)^&&\n")) {
            int middle = one.indexOf("\n--\n");
            String before = one.substring(0, middle);
            String after = one.substring(middle + 4).stripTrailing();
            int at = changed.indexOf(before);
            if (at < 0 || changed.indexOf(before, at + 1) >= 0) {
                return null;
            }
            changed = changed.substring(0, at) + after + changed.substring(at + before.length());
        }
        return changed;
    }

    private static boolean namesPromise(Map<String, Compiled> classes, int promise) {
        try {
            Object broken = new Loader(classes).loadClass("BoundaryTest").getMethod("broken").invoke(null);
            return broken instanceof TreeSet<?> promises && promises.contains(promise);
        } catch (ReflectiveOperationException failed) {
            throw new IllegalStateException(failed);
        }
    }

    /** What is to be said of one change; empty, if its breach is seen. */
    private static String judge(JavaCompiler compiler, String right, String block) {
        int end = block.indexOf('\n');
        String head = block.substring(0, end).strip();
        String text = change(right, block.substring(end + 1));
        Map<String, Compiled> classes = text == null ? null : compile(compiler, text);
        if (classes == null) {
            return PASSED_BY + head;
        }
        int promise = Integer.parseInt(head.substring(0, head.indexOf(' ')));
        return namesPromise(classes, promise) ? "" : NOT_SEEN + head;
    }

    public static void main(String[] args) throws IOException {
        String right = Files.readString(CLASS_TEXT);
        JavaCompiler compiler = ToolProvider.getSystemJavaCompiler();
        if (compiler == null) {
            System.out.println("this java has no compiler: no change is done");
            return;
        }
        List<String> said = Arrays.stream(Files.readString(MUTANTS).split("(?m)^== ")).filter(block -> block.contains("\n--\n"))
            .parallel().map(block -> judge(compiler, right, block)).toList();
        said.stream().filter(word -> !word.isEmpty()).forEach(System.out::println);
        long missed = said.stream().filter(word -> word.startsWith(NOT_SEEN)).count();
        System.out.println(said.size() + " changes, " + missed + " not seen");
        if (missed != 0) {
            System.exit(1);
        }
    }
}
