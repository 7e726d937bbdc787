import java.io.IOException;
import java.io.StringWriter;
import java.lang.invoke.MethodHandles;
import java.lang.reflect.Method;
import java.lang.reflect.Modifier;
import java.nio.file.Files;
import java.nio.file.Path;
import java.util.Arrays;
import java.util.List;
import java.util.Set;
import java.util.TreeSet;
import java.util.regex.Matcher;
import java.util.regex.Pattern;
import javax.tools.JavaCompiler;
import javax.tools.StandardJavaFileManager;
import javax.tools.ToolProvider;

/** Runs the Java that README.md shows: each call must answer what stands behind it there. */
public final class ReadmeTest {
  private static final Pattern BLOCK = Pattern.compile("(?s)```java\n(.*?)```");
  private static final Pattern SHOWN = Pattern.compile("(\\S.*\\));\\s*// (-?\\d+|NONE|true|false)(: .*)?");
  private static final Pattern CALL = Pattern.compile("\\bx\\.(\\w+)\\(");
  private static final Set<String> called = new TreeSet<>();

  public static void main(String[] args) throws Exception {
    runShown(sourceOf(Files.readString(Path.of("README.md"))));
    for (Method m : VintageJams.class.getDeclaredMethods()) {
      if (Modifier.isPublic(m.getModifiers())) {
        Kit.due("README.md shows " + m.getName(), called.contains(m.getName()), true);
      }
    }
    Kit.finish();
  }

  private static String sourceOf(String readme) {
    StringBuilder members = new StringBuilder("final class Shown {\nstatic final int NONE = VintageJams.NONE;\n");
    StringBuilder run = new StringBuilder("static void run() {\n");
    Matcher blocks = BLOCK.matcher(readme);
    while (blocks.find()) {
      String block = blocks.group(1);
      if (block.startsWith("static ")) {
        members.append(block);
      } else {
        block.lines().forEach(line -> run.append(checked(line)).append('\n'));
      }
    }
    return members.append(run).append("}\n}\n").toString();
  }

  /** A call with its answer becomes a question of the test; a call without one shows nothing. */
  private static String checked(String line) {
    Matcher shown = SHOWN.matcher(line);
    if (!shown.matches()) {
      Kit.due("README.md has an answer behind: " + line, CALL.matcher(line).find(), false);
      return line;
    }
    Matcher call = CALL.matcher(shown.group(1));
    if (call.find()) {
      called.add(call.group(1));
    }
    String told = shown.group(1).replace("\\", "\\\\").replace("\"", "\\\"");
    return "Kit.due(\"README.md: " + told + "\", " + shown.group(1) + ", " + shown.group(2) + ");";
  }

  private static void runShown(String source) throws Exception {
    Path folder = Files.createTempDirectory("readme");
    Path file = folder.resolve("Shown.java");
    Path made = folder.resolve("Shown.class");
    try {
      Files.writeString(file, source);
      if (compiles(file, folder)) {
        // in the tests' own class loader, as Kit is not public
        Method run = MethodHandles.lookup().defineClass(Files.readAllBytes(made)).getDeclaredMethod("run");
        run.setAccessible(true);
        run.invoke(null);
      }
    } finally {
      for (Path path : List.of(file, made, folder)) {
        Files.deleteIfExists(path);
      }
    }
  }

  private static boolean compiles(Path file, Path folder) throws IOException {
    JavaCompiler compiler = ToolProvider.getSystemJavaCompiler();
    Kit.due("there is a compiler", compiler != null, true);
    if (compiler == null) {
      return false;
    }
    StringWriter told = new StringWriter();
    List<String> options =
        Arrays.asList("-cp", System.getProperty("java.class.path"), "-d", folder.toString());
    boolean compiled;
    try (StandardJavaFileManager files = compiler.getStandardFileManager(null, null, null)) {
      compiled = compiler.getTask(told, files, null, options, null, files.getJavaFileObjects(file)).call();
    }
    Kit.due("README.md's Java compiles: " + told, compiled, true);
    return compiled;
  }
}
