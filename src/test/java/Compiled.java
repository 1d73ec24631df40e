import java.io.ByteArrayOutputStream;
import java.io.IOException;
import java.io.InputStream;
import java.io.OutputStream;
import java.io.PrintWriter;
import java.net.URI;
import java.util.HashMap;
import java.util.List;
import java.util.Map;
import javax.tools.FileObject;
import javax.tools.ForwardingJavaFileManager;
import javax.tools.JavaCompiler;
import javax.tools.JavaFileManager;
import javax.tools.JavaFileObject;
import javax.tools.SimpleJavaFileObject;
import javax.tools.ToolProvider;

/** A text of the class Cavernbook, compiled in memory, with the tests loaded anew beside it. */
final class Compiled extends ClassLoader {
    private final Map<String, byte[]> own;

    private Compiled(Map<String, byte[]> classes) {
        super(ClassLoader.getPlatformClassLoader());
        own = classes;
    }

    /** The classes of a text, or null if it does not compile. */
    static Map<String, byte[]> classes(String text) throws IOException {
        JavaCompiler compiler = ToolProvider.getSystemJavaCompiler();
        Map<String, ByteArrayOutputStream> made = new HashMap<>();
        try (JavaFileManager files = new Kept(compiler.getStandardFileManager(null, null, null), made)) {
            PrintWriter nowhere = new PrintWriter(OutputStream.nullOutputStream());
            if (!compiler.getTask(nowhere, files, null, List.of("-nowarn"), null, List.of(new Text(text))).call()) {
                return null;
            }
        }
        Map<String, byte[]> classes = new HashMap<>();
        made.forEach((name, bytes) -> classes.put(name, bytes.toByteArray()));
        return classes;
    }

    /** A loader whose Cavernbook is the one of these classes, so that a test loaded by it meets that one. */
    static ClassLoader with(Map<String, byte[]> classes) {
        return new Compiled(classes);
    }

    @Override
    protected Class<?> findClass(String name) throws ClassNotFoundException {
        byte[] bytes = own.containsKey(name) ? own.get(name) : bytesOfTest(name);
        return defineClass(name, bytes, 0, bytes.length);
    }

    private static byte[] bytesOfTest(String name) throws ClassNotFoundException {
        try (InputStream in = Compiled.class.getResourceAsStream(name + ".class")) {
            if (in == null) {
                throw new ClassNotFoundException(name);
            }
            return in.readAllBytes();
        } catch (IOException e) {
            throw new ClassNotFoundException(name, e);
        }
    }

    /** A source in memory. */
    private static final class Text extends SimpleJavaFileObject {
        private final String text;

        Text(String of) {
            super(URI.create("string:///Cavernbook.java"), Kind.SOURCE);
            text = of;
        }

        @Override
        public CharSequence getCharContent(boolean ignoreErrors) {
            return text;
        }
    }

    /** Keeps what is compiled in memory. */
    private static final class Kept extends ForwardingJavaFileManager<JavaFileManager> {
        private final Map<String, ByteArrayOutputStream> made;

        Kept(JavaFileManager files, Map<String, ByteArrayOutputStream> into) {
            super(files);
            made = into;
        }

        @Override
        public JavaFileObject getJavaFileForOutput(Location at, String name, JavaFileObject.Kind kind, FileObject by) {
            return new SimpleJavaFileObject(URI.create("bytes:///" + name.replace('$', '-')), kind) {
                @Override
                public OutputStream openOutputStream() {
                    ByteArrayOutputStream bytes = new ByteArrayOutputStream();
                    made.put(name, bytes);
                    return bytes;
                }
            };
        }
    }
}
