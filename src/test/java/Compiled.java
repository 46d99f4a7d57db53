import java.io.ByteArrayOutputStream;
import java.io.OutputStream;
import java.net.URI;
import java.util.ArrayList;
import java.util.HashMap;
import java.util.List;
import java.util.Map;
import javax.tools.FileObject;
import javax.tools.ForwardingJavaFileManager;
import javax.tools.JavaCompiler;
import javax.tools.JavaFileManager;
import javax.tools.JavaFileObject;
import javax.tools.SimpleJavaFileObject;
import javax.tools.ToolProvider;

/** Classes that a test compiles out of texts while it runs; nothing is written to the disk. */
final class Compiled {
    private final Map<String, byte[]> classes = new HashMap<>();

    private static final class Kept extends SimpleJavaFileObject {
        private final String source;
        private final ByteArrayOutputStream bytes = new ByteArrayOutputStream();

        Kept(String name, String source, Kind kind) {
            super(URI.create("mem:///" + name.replace('.', '/') + kind.extension), kind);
            this.source = source;
        }

        @Override
        public CharSequence getCharContent(boolean ignored) {
            return source;
        }

        @Override
        public OutputStream openOutputStream() {
            return bytes;
        }
    }

    private static final class Loader extends ClassLoader {
        private final Map<String, byte[]> classes;

        Loader(Map<String, byte[]> classes, ClassLoader parent) {
            super(parent);
            this.classes = classes;
        }

        @Override
        protected Class<?> findClass(String name) throws ClassNotFoundException {
            byte[] bytes = classes.get(name);
            if (bytes == null) {
                throw new ClassNotFoundException(name);
            }
            return defineClass(name, bytes, 0, bytes.length);
        }
    }

    /** The sources by the names of their classes. */
    Compiled(Map<String, String> sources) {
        JavaCompiler javac = ToolProvider.getSystemJavaCompiler();
        Map<String, Kept> out = new HashMap<>();
        JavaFileManager files = new ForwardingJavaFileManager<>(javac.getStandardFileManager(null, null, null)) {
            @Override
            public JavaFileObject getJavaFileForOutput(Location at, String name, JavaFileObject.Kind kind, FileObject sibling) {
                Kept kept = new Kept(name, null, kind);
                out.put(name, kept);
                return kept;
            }
        };
        List<Kept> in = new ArrayList<>();
        sources.forEach((name, source) -> in.add(new Kept(name, source, JavaFileObject.Kind.SOURCE)));
        StringBuilder said = new StringBuilder();
        boolean fine = javac.getTask(null, files, d -> said.append(d).append('\n'), List.of("-nowarn", "-proc:none"), null, in).call();
        if (!fine) {
            throw new IllegalArgumentException("it does not compile: " + said);
        }
        out.forEach((name, kept) -> classes.put(name, kept.bytes.toByteArray()));
    }

    /** The classes anew, with static fields of their own; those of the test that asks are not seen by them. */
    ClassLoader apart() {
        return new Loader(classes, ClassLoader.getPlatformClassLoader());
    }

    /** The classes anew, beside those of the test that asks. */
    ClassLoader beside() {
        return new Loader(classes, Compiled.class.getClassLoader());
    }
}
