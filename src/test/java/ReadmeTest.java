import java.nio.file.Files;
import java.nio.file.Path;
import java.util.ArrayList;
import java.util.List;
import java.util.regex.Matcher;
import java.util.regex.Pattern;
import javax.tools.JavaCompiler;
import javax.tools.ToolProvider;
import java.lang.reflect.Method;
import java.net.URL;
import java.net.URLClassLoader;

/** The program that README.md shows: it compiles as it stands, and each call answers what stands behind it. */
public final class ReadmeTest {
    /** A call on a line of its own, and the answer that its comment begins with. */
    private static final Pattern CALL = Pattern.compile("^ +(map\\.\\w+\\(.*\\)); +// (-?\\d+|true|false)(:.*)?$");
    /** What the README must show, each at least once. */
    private static final String[] SHOWN = {
        "feed", "town", "status", "fault", "told", "place", "days", "mark", "live", "lived", "undo", "top", "bottom"
    };

    public static void main(String[] args) throws Exception {
        List<String> program = program(Files.readAllLines(Path.of("README.md")));
        Path plain = Path.of("build", "readme", "plain");
        Path asked = Path.of("build", "readme", "asked");
        run(compile(plain, program));
        List<String> asking = new ArrayList<>();
        for (String line : program) {
            asking.add(asking(line));
        }
        run(compile(asked, asking));
        for (String name : SHOWN) {
            Due.is("README.md shows " + name + "()", program.stream().anyMatch(l -> l.contains("map." + name + "(")), true);
        }
        Due.end("ReadmeTest");
    }

    /** The lines between the first fence of Java and the next fence. */
    private static List<String> program(List<String> readme) {
        int begin = readme.indexOf("```java");
        Due.is("README.md has a program", begin >= 0, true);
        List<String> lines = new ArrayList<>();
        for (int i = begin + 1; i < readme.size() && !readme.get(i).equals("```"); i++) {
            lines.add(readme.get(i));
        }
        return lines;
    }

    /** Those of the program's lines that make a call in main() become a question. */
    private static String asking(String line) {
        Matcher call = CALL.matcher(line);
        boolean inMain = line.startsWith("        map.");
        Due.is("an answer stands behind each call: " + line.trim(), !inMain || call.matches(), true);
        if (!inMain || !call.matches()) {
            return line;
        }
        String told = call.group(1).replace("\\", "\\\\").replace("\"", "\\\"");
        return "        Due.is(\"README.md: " + told + "\", " + call.group(1) + ", " + call.group(2) + ");";
    }

    private static Path compile(Path folder, List<String> program) throws Exception {
        Files.createDirectories(folder);
        Path file = folder.resolve("Example.java");
        Files.write(file, program);
        JavaCompiler javac = ToolProvider.getSystemJavaCompiler();
        int code = javac.run(null, null, null, "-cp", System.getProperty("java.class.path"),
            "-d", folder.toString(), file.toString());
        Due.is("javac on " + file, code, 0);
        return folder;
    }

    private static void run(Path folder) throws Exception {
        URL[] places = {folder.toUri().toURL()};
        try (URLClassLoader loader = new URLClassLoader(places, PacedMap.class.getClassLoader())) {
            Method main = loader.loadClass("Example").getMethod("main", String[].class);
            main.invoke(null, (Object) new String[0]);
        }
    }
}
