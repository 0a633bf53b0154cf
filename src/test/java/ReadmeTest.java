import java.io.IOException;
import java.io.StringWriter;
import java.lang.reflect.Method;
import java.lang.reflect.Modifier;
import java.net.URL;
import java.net.URLClassLoader;
import java.nio.file.Files;
import java.nio.file.Path;
import java.util.ArrayList;
import java.util.Arrays;
import java.util.List;
import java.util.regex.Matcher;
import java.util.regex.Pattern;
import javax.tools.ToolProvider;

/** The README's piece of Java is compiled and run: each line answers the number that stands beside it. */
public final class ReadmeTest {
    private static final Check CHECK = new Check();

    /** A call of the room, with or without a name for its answer, and the answer that is due. */
    private static final Pattern LINE = Pattern.compile("(int (\\w+) = )?(room\\.\\w+\\(.*?\\)); +// (-?\\d+)( .*)?");

    public static void main(String[] args) throws IOException, ReflectiveOperationException {
        String readme = Files.readString(Path.of("README.md"));
        eachCallIsNamed(readme);
        piece(readme);
        CHECK.end("ReadmeTest");
    }

    private static void eachCallIsNamed(String readme) {
        for (Method method : AlmanacRoom.class.getDeclaredMethods()) {
            if (Modifier.isPublic(method.getModifiers())) {
                CHECK.is("the README has " + method.getName(), true, () -> readme.contains("`" + method.getName() + "`"));
            }
        }
    }

    private static void piece(String readme) throws IOException, ReflectiveOperationException {
        Matcher java = Pattern.compile("(?s)```java\n(.*?)```").matcher(readme);
        CHECK.is("the README has a piece of Java", true, () -> java.find());
        List<String> asked = new ArrayList<>();
        List<Integer> due = new ArrayList<>();
        String made = made(java.group(1), asked, due);
        int[] got = ran(made, due.size());
        for (int k = 0; k < got.length; k++) {
            int answer = got[k];
            CHECK.is(asked.get(k), due.get(k), () -> answer);
        }
    }

    /** The piece as a class whose method run keeps each answer; a line of another form is wrong. */
    private static String made(String piece, List<String> asked, List<Integer> due) {
        StringBuilder made = new StringBuilder("public final class Piece {\npublic static void run(int[] got) {\n");
        for (String line : piece.lines().toList()) {
            Matcher parts = LINE.matcher(line);
            if (parts.matches()) {
                String got = "got[" + due.size() + "]";
                made.append(got).append(" = ").append(parts.group(3)).append(";\n");
                if (parts.group(2) != null) {
                    made.append("int ").append(parts.group(2)).append(" = ").append(got).append(";\n");
                }
                asked.add(parts.group(3));
                due.add(Integer.parseInt(parts.group(4)));
            } else {
                CHECK.is("a line of the README", true, () -> line.isEmpty() || line.startsWith("AlmanacRoom room = "));
                made.append(line).append("\n");
            }
        }
        return made.append("}\n}\n").toString();
    }

    private static int[] ran(String made, int many) throws IOException, ReflectiveOperationException {
        Path out = Files.createTempDirectory("readme");
        Path file = Files.writeString(out.resolve("Piece.java"), made);
        var compiler = ToolProvider.getSystemJavaCompiler();
        int[] got = new int[many];
        Arrays.fill(got, Integer.MIN_VALUE);
        try (var files = compiler.getStandardFileManager(null, null, null);
            URLClassLoader loader = new URLClassLoader(new URL[] {out.toUri().toURL()})) {
            StringWriter told = new StringWriter();
            boolean compiled = compiler.getTask(told, files, null,
                List.of("-d", out.toString(), "-cp", System.getProperty("java.class.path")), null,
                files.getJavaFileObjects(file)).call();
            CHECK.is("the README's piece compiles: " + told, true, () -> compiled);
            if (compiled) {
                loader.loadClass("Piece").getMethod("run", int[].class).invoke(null, (Object) got);
            }
        } finally {
            Files.deleteIfExists(out.resolve("Piece.class"));
            Files.deleteIfExists(file);
            Files.deleteIfExists(out);
        }
        return got;
    }
}
