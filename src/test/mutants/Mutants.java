import java.io.ByteArrayOutputStream;
import java.io.IOException;
import java.io.OutputStream;
import java.io.PrintStream;
import java.lang.reflect.Constructor;
import java.lang.reflect.Method;
import java.net.URI;
import java.nio.file.Files;
import java.nio.file.Path;
import java.util.ArrayList;
import java.util.HashMap;
import java.util.LinkedHashSet;
import java.util.List;
import java.util.Map;
import java.util.Set;
import javax.tools.FileObject;
import javax.tools.ForwardingJavaFileManager;
import javax.tools.JavaCompiler;
import javax.tools.JavaFileManager;
import javax.tools.JavaFileObject;
import javax.tools.SimpleJavaFileObject;
import javax.tools.StandardJavaFileManager;
import javax.tools.ToolProvider;

/**
 * Breaks one sentence of the document after the other in a copy of the class and sees that the sentence's own test finds it.
 * Arguments: the directory of the compiled tests, the class's file. .ci/mutants runs it.
 */
public final class Mutants {
    private static final String[] TESTS = {"BoundsOfTextsTest", "BoundsOfToldTest", "BoundsOfPlacesTest", "BoundsOfTimesTest",
        "BoundsOfCountsTest"};

    public static void main(String[] args) throws Exception {
        Path tests = Path.of(args[0]);
        String source = Files.readString(Path.of(args[1]));
        Set<String> never = new LinkedHashSet<>(run(tests, source).get(0));
        int wrong = 0;
        for (String[] mutant : Broken.MUTANTS) {
            int at = source.indexOf(mutant[1]);
            if (at < 0 || source.indexOf(mutant[1], at + 1) >= 0) {
                System.out.println("stands not once in the class: " + mutant[1]);
                wrong++;
                continue;
            }
            List<String> found = run(tests, source.replace(mutant[1], mutant[2])).get(1);
            if (!found.contains(mutant[0])) {
                System.out.println("not found broken: " + mutant[0] + "\n    by " + mutant[2] + "\n    but " + found);
                wrong++;
            }
            never.remove(mutant[0]);
        }
        for (String sentence : never) {
            System.out.println("no mutant breaks: " + sentence);
        }
        System.out.println(Broken.MUTANTS.length + " mutants, " + (wrong + never.size()) + " not as due");
        System.exit(wrong == 0 && never.isEmpty() ? 0 : 1);
    }

    /** The sentences that were tested, and those that were found broken. */
    private static List<List<String>> run(Path tests, String source) throws Exception {
        Loader loader = new Loader(tests, compiled(source));
        Class<?> sentences = loader.loadClass("Sentences");
        Constructor<?> made = sentences.getDeclaredConstructor();
        made.setAccessible(true);
        Object s = made.newInstance();
        PrintStream out = System.out;
        System.setOut(new PrintStream(OutputStream.nullOutputStream()));
        try {
            for (String test : TESTS) {
                Method all = loader.loadClass(test).getDeclaredMethod("all", sentences);
                all.setAccessible(true);
                all.invoke(null, s);
            }
        } finally {
            System.setOut(out);
        }
        return List.of(told(sentences, s, "tested"), told(sentences, s, "broken"));
    }

    private static List<String> told(Class<?> sentences, Object s, String what) throws Exception {
        Method method = sentences.getDeclaredMethod(what);
        method.setAccessible(true);
        List<String> all = new ArrayList<>();
        for (Object sentence : (List<?>) method.invoke(s)) {
            all.add((String) sentence);
        }
        return all;
    }

    private static Map<String, byte[]> compiled(String source) throws IOException {
        JavaCompiler compiler = ToolProvider.getSystemJavaCompiler();
        StandardJavaFileManager standard = compiler.getStandardFileManager(null, null, null);
        Map<String, ByteArrayOutputStream> written = new HashMap<>();
        JavaFileManager manager = new ForwardingJavaFileManager<JavaFileManager>(standard) {
            @Override
            public JavaFileObject getJavaFileForOutput(Location place, String name, JavaFileObject.Kind kind, FileObject sibling) {
                return new SimpleJavaFileObject(URI.create("mem:///" + name.replace('$', '_') + ".class"), kind) {
                    @Override
                    public OutputStream openOutputStream() {
                        written.put(name, new ByteArrayOutputStream());
                        return written.get(name);
                    }
                };
            }
        };
        JavaFileObject unit = new SimpleJavaFileObject(URI.create("mem:///SlippedPlaces.java"), JavaFileObject.Kind.SOURCE) {
            @Override
            public CharSequence getCharContent(boolean ignore) {
                return source;
            }
        };
        if (!compiler.getTask(null, manager, null, null, null, List.of(unit)).call()) {
            throw new IllegalStateException("a mutant does not compile");
        }
        Map<String, byte[]> classes = new HashMap<>();
        written.forEach((name, bytes) -> classes.put(name, bytes.toByteArray()));
        return classes;
    }

    /** The tests as they are, with the mutant in the class's place. */
    private static final class Loader extends ClassLoader {
        private final Path tests;
        private final Map<String, byte[]> mutant;

        Loader(Path tests, Map<String, byte[]> mutant) {
            super(ClassLoader.getPlatformClassLoader());
            this.tests = tests;
            this.mutant = mutant;
        }

        @Override
        protected Class<?> findClass(String name) throws ClassNotFoundException {
            try {
                byte[] bytes = name.startsWith("SlippedPlaces") ? mutant.get(name) : Files.readAllBytes(tests.resolve(name + ".class"));
                if (bytes == null) {
                    throw new ClassNotFoundException(name);
                }
                return defineClass(name, bytes, 0, bytes.length);
            } catch (IOException e) {
                throw new ClassNotFoundException(name);
            }
        }
    }
}
