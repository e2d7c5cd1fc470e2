import java.io.File;
import java.lang.reflect.InvocationTargetException;
import java.lang.reflect.Method;
import java.lang.reflect.Modifier;
import java.net.URL;
import java.net.URLClassLoader;
import java.nio.file.Files;
import java.nio.file.Path;
import java.util.ArrayList;
import java.util.List;
import java.util.regex.Matcher;
import java.util.regex.Pattern;
import javax.tools.JavaCompiler;
import javax.tools.ToolProvider;

/** What README.md says of the class holds: its Java compiles and answers as told, and its tables have every call. */
public final class ReadmeTest {
    private static final Pattern BLOCK = Pattern.compile("(?s)```java\\n(.*?)```");
    /** A statement, and behind it the answer that is due: {@code x.now(0);  // 0: the minute}. */
    private static final Pattern TOLD = Pattern.compile("(?:int (\\w+) = )?(.+);\\s+// (-?\\d+): .*");
    private static int asked = 0;
    private static int wrong = 0;

    public static void main(String[] args) throws Exception {
        String page = Files.readString(Path.of("README.md"));
        everyCallStandsThere(page);
        examplesAnswerAsTold(page);
        System.out.println(asked + " answers of README.md asked, " + wrong + " faults");
        if (wrong != 0 || asked == 0) {
            System.exit(1);
        }
    }

    private static void refuse(String what) {
        wrong++;
        System.out.println(what);
    }

    private static void everyCallStandsThere(String page) {
        for (Method m : ComposedInterval.class.getDeclaredMethods()) {
            if (!Modifier.isPublic(m.getModifiers())) {
                continue;
            }
            Matcher row = Pattern.compile("(?m)^\\| `" + m.getName() + "\\(([^)]*)\\)` \\|").matcher(page);
            if (!row.find()) {
                refuse("README.md has no row for " + m.getName());
            } else if (parameters(row.group(1)) != m.getParameterCount()) {
                refuse("README.md has other parameters: " + row.group());
            }
        }
    }

    private static int parameters(String list) {
        return list.isBlank() ? 0 : list.split(",").length;
    }

    private static void examplesAnswerAsTold(String page) throws Exception {
        Path built = Files.createTempDirectory("readme");
        try {
            Path source = built.resolve("ReadmeExamples.java");
            Files.writeString(source, program(page));
            JavaCompiler javac = ToolProvider.getSystemJavaCompiler();
            String path = System.getProperty("java.class.path");
            if (javac.run(null, System.out, System.out, "-cp", path, "-d", built.toString(), source.toString()) != 0) {
                refuse("the Java of README.md does not compile");
                return;
            }
            try (URLClassLoader loader = new URLClassLoader(new URL[] {built.toUri().toURL()})) {
                loader.loadClass("ReadmeExamples").getMethod("all").invoke(null);
            } catch (InvocationTargetException e) {
                refuse("the Java of README.md threw " + e.getCause());
            }
        } finally {
            for (File file : built.toFile().listFiles()) {
                file.delete();
            }
            Files.delete(built);
        }
    }

    /** One program of all blocks: those that are methods stand as they are, each other one is a method of its own. */
    private static String program(String page) {
        StringBuilder methods = new StringBuilder();
        List<String> calls = new ArrayList<>();
        Matcher block = BLOCK.matcher(page);
        while (block.find()) {
            String code = block.group(1);
            if (code.startsWith("static ")) {
                methods.append(code);
            } else {
                String name = "example" + calls.size();
                calls.add(name + "();\n");
                methods.append("static void ").append(name).append("() {\n").append(asking(code)).append("}\n");
            }
        }
        return "public final class ReadmeExamples {\n" + methods
            + "public static void all() {\n" + String.join("", calls) + "}\n}\n";
    }

    private static String asking(String code) {
        StringBuilder asking = new StringBuilder();
        for (String line : code.split("\n")) {
            Matcher told = TOLD.matcher(line);
            if (!told.matches()) {
                asking.append(line).append('\n');
                continue;
            }
            String asks = told.group(2);
            if (told.group(1) != null) {
                asking.append("int ").append(told.group(1)).append(" = ").append(asks).append(";\n");
                asks = told.group(1);
            }
            asking.append("ReadmeTest.due(\"").append(line.replace("\"", "\\\"")).append("\", ")
                .append(asks).append(", ").append(told.group(3)).append("L);\n");
        }
        return asking.toString();
    }

    /** Called by the program that is made of the page. */
    public static void due(String line, long got, long want) {
        asked++;
        if (got != want) {
            refuse("README.md: " + line + "\n  answered " + got);
        }
    }
}
