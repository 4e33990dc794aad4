import java.io.ByteArrayOutputStream;
import java.io.OutputStream;
import java.io.StringWriter;
import java.lang.reflect.InvocationTargetException;
import java.net.URI;
import java.util.ArrayList;
import java.util.List;
import java.util.regex.Matcher;
import java.util.regex.Pattern;
import javax.tools.FileObject;
import javax.tools.ForwardingJavaFileManager;
import javax.tools.JavaCompiler;
import javax.tools.JavaFileManager;
import javax.tools.JavaFileObject;
import javax.tools.SimpleJavaFileObject;
import javax.tools.StandardJavaFileManager;
import javax.tools.ToolProvider;

/**
 * The examples of a page, as they stand there: they are compiled and run, and what each line answers is put beside
 * what the page tells of it. A line tells an answer behind "//", up to the colon; a line that begins with "x." must.
 */
final class Examples {
    private static final String CLASS = "PageExamples";
    private static final Pattern BLOCK = Pattern.compile("(?m)^```java\n(?s:(.*?))^```$");
    private static final Pattern TELLS =
        Pattern.compile("((?:\\w+ )?(\\w+) = )?(\\S.*);\\s+// ([^:]*[^:\\s])(?::.*)?");
    private static final Pattern ONLY_CALLS = Pattern.compile("x\\..*");

    private final List<String> blocks = new ArrayList<>();
    private final List<String> lines = new ArrayList<>();
    private final List<String> due = new ArrayList<>();
    private final List<String> silent = new ArrayList<>();
    private final List<String> answers = new ArrayList<>();

    Examples(String page) {
        Matcher block = BLOCK.matcher(page);
        while (block.find()) {
            blocks.add(block.group(1));
        }
    }

    /** The calls in the examples, all in one text. */
    String code() {
        return String.join("", blocks);
    }

    /** Each line that tells an answer answers so; no line that only calls tells none. */
    void check(Check check) throws Exception {
        String error = run(source());
        check.due("the examples, compiled and run", error, "");
        check.due("calls in the examples without an answer", silent, "[]");
        check.due("answers in the examples", answers.size(), due.size());
        for (int i = 0; i < Math.min(answers.size(), due.size()); i++) {
            check.due("README: " + lines.get(i), answers.get(i), due.get(i));
        }
    }

    /** Once with each answer noted, and once as the page has it, so that the page itself is known to compile. */
    private String source() {
        StringBuilder noted = new StringBuilder();
        StringBuilder plain = new StringBuilder();
        for (String block : blocks) {
            noted.append("{\n");
            for (String line : block.split("\n")) {
                noted.append(noted(line)).append('\n');
            }
            noted.append("}\n");
            plain.append("{\n").append(block).append("}\n");
        }
        return "public final class " + CLASS + " {\n"
            + "public static void run(java.util.List<String> told) {\n" + noted + "}\n"
            + "static void plain() {\n" + plain + "}\n}\n";
    }

    private String noted(String line) {
        Matcher tells = TELLS.matcher(line);
        if (!tells.matches()) {
            if (ONLY_CALLS.matcher(line).matches()) {
                silent.add(line);
            }
            return line;
        }
        lines.add(line);
        due.add(tells.group(4));
        if (tells.group(1) != null) {
            return tells.group(1) + tells.group(3) + "; told.add(String.valueOf(" + tells.group(2) + "));";
        }
        return "try { told.add(String.valueOf(" + tells.group(3) + ")); } catch (RuntimeException e) {"
            + " told.add(\"throws \" + e.getClass().getSimpleName()); }";
    }

    /** What went wrong, or nothing. */
    private String run(String source) throws Exception {
        JavaCompiler compiler = ToolProvider.getSystemJavaCompiler();
        if (compiler == null) {
            return "there is no compiler";
        }
        Compiled compiled = new Compiled();
        StringWriter errors = new StringWriter();
        try (JavaFileManager files = new InMemory(compiler.getStandardFileManager(null, null, null), compiled)) {
            if (!compiler.getTask(errors, files, null, null, null, List.of(new Source(source))).call()) {
                return errors.toString();
            }
        }
        Class<?> examples = new Loader(compiled.bytes.toByteArray()).loadClass(CLASS);
        try {
            examples.getMethod("run", List.class).invoke(null, answers);
            return "";
        } catch (InvocationTargetException e) {
            return "behind " + answers.size() + " answers: " + e.getCause();
        }
    }

    private static final class Source extends SimpleJavaFileObject {
        private final String text;

        Source(String text) {
            super(URI.create("string:///" + CLASS + ".java"), Kind.SOURCE);
            this.text = text;
        }

        @Override
        public CharSequence getCharContent(boolean ignoreErrors) {
            return text;
        }
    }

    private static final class Compiled extends SimpleJavaFileObject {
        private final ByteArrayOutputStream bytes = new ByteArrayOutputStream();

        Compiled() {
            super(URI.create("bytes:///" + CLASS + ".class"), Kind.CLASS);
        }

        @Override
        public OutputStream openOutputStream() {
            return bytes;
        }
    }

    private static final class InMemory extends ForwardingJavaFileManager<StandardJavaFileManager> {
        private final Compiled compiled;

        InMemory(StandardJavaFileManager files, Compiled compiled) {
            super(files);
            this.compiled = compiled;
        }

        @Override
        public JavaFileObject getJavaFileForOutput(Location place, String name, JavaFileObject.Kind kind,
                FileObject from) {
            return compiled;
        }
    }

    private static final class Loader extends ClassLoader {
        private final byte[] bytes;

        Loader(byte[] bytes) {
            super(Examples.class.getClassLoader());
            this.bytes = bytes;
        }

        @Override
        protected Class<?> findClass(String name) {
            return defineClass(name, bytes, 0, bytes.length);
        }
    }
}
