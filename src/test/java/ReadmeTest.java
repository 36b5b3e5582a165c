import java.nio.charset.StandardCharsets;
import java.nio.file.Files;
import java.nio.file.Path;
import java.util.ArrayList;
import java.util.List;
import java.util.Set;
import java.util.TreeSet;
import java.util.regex.Matcher;
import java.util.regex.Pattern;
import javax.tools.ToolProvider;

/** The examples of README.md, put together to a program: each call answers what stands behind its arrow. */
public final class ReadmeTest {
    private static final Pattern DUE = Pattern.compile("^(\\s*)(\\w+\\.\\w+\\([^;]*\\));\\s*// -> ('.'|-?\\w+).*$");
    private static final Pattern CALL = Pattern.compile("\\b[xy]\\.(\\w+)\\(");

    public static void main(String[] args) throws Exception {
        String readme = Files.readString(Path.of("README.md"), StandardCharsets.UTF_8);
        Set<String> called = new TreeSet<>();
        StringBuilder program = new StringBuilder("public final class Examples {\n"
            + "public static void run(java.util.List<String[]> told) {\n");
        boolean java = false;
        for (String line : readme.split("\n")) {
            if (line.startsWith("```")) {
                java = line.equals("```java");
            } else if (java) {
                program.append(line(line)).append('\n');
                Matcher m = CALL.matcher(line);
                while (m.find()) {
                    called.add(m.group(1));
                }
            }
        }
        program.append("}\n}\n");
        eachMethodIsShown(called);
        run(program.toString());
        Check.finish();
    }

    /** A line of an example; one with an answer that is due tells both. */
    private static String line(String line) {
        Matcher m = DUE.matcher(line);
        if (!m.matches()) {
            return line;
        }
        String due = m.group(3).startsWith("'") ? "(int) " + m.group(3) : m.group(3);
        return "told.add(new String[] {\"" + m.group(2) + "\", String.valueOf(" + m.group(2) + "), String.valueOf(" + due + ")});";
    }

    private static void eachMethodIsShown(Set<String> called) {
        for (java.lang.reflect.Method m : BookWorks.class.getDeclaredMethods()) {
            if (java.lang.reflect.Modifier.isPublic(m.getModifiers())) {
                Check.isTrue("README shows " + m.getName(), called.contains(m.getName()));
            }
        }
    }

    private static void run(String program) throws Exception {
        Path folder = Files.createTempDirectory("readme");
        Path file = folder.resolve("Examples.java");
        Files.writeString(file, program, StandardCharsets.UTF_8);
        int made = ToolProvider.getSystemJavaCompiler().run(null, null, null, "-encoding", "UTF-8", "-cp",
            System.getProperty("java.class.path"), "-d", folder.toString(), file.toString());
        Check.same("javac of the examples", made, 0);
        List<String[]> told = new ArrayList<>();
        if (made == 0) {
            java.net.URL[] places = {folder.toUri().toURL()};
            try (java.net.URLClassLoader loader = new java.net.URLClassLoader(places)) {
                loader.loadClass("Examples").getMethod("run", List.class).invoke(null, told);
            }
        }
        for (String[] one : told) {
            Check.same("README: " + one[0], one[1], one[2]);
        }
        Check.isTrue("answers that README shows", told.size() > 50);
        for (String name : new String[] {"Examples.java", "Examples.class"}) {
            Files.deleteIfExists(folder.resolve(name));
        }
        Files.deleteIfExists(folder);
    }
}
