import java.io.IOException;
import java.lang.reflect.Constructor;
import java.lang.reflect.Field;
import java.lang.reflect.Method;
import java.lang.reflect.Modifier;
import java.nio.file.Files;
import java.nio.file.Path;
import java.util.Arrays;
import java.util.Set;
import java.util.TreeSet;
import java.util.regex.Matcher;
import java.util.regex.Pattern;

/** Rules of LANGUAGE.md that can be seen in the class or in its file; the face, against the document's own text. */
public final class RuleTest {
  public static void main(String[] args) throws IOException {
    face();
    nestedClasses();
    source();
    Kit.finish();
  }

  private static String signature(Method m) {
    StringBuilder text = new StringBuilder(m.getReturnType().getName()).append(' ').append(m.getName());
    for (Class<?> type : m.getParameterTypes()) {
      text.append(' ').append(type.getName());
    }
    return text.toString();
  }

  private static Set<String> facePromised() throws IOException {
    Set<String> face = new TreeSet<>();
    String doc = Files.readString(Path.of("../shared/DOC.md"));
    Matcher m = Pattern.compile("    public (int|boolean) (\\w+)\\(([^)]*)\\);").matcher(doc);
    while (m.find()) {
      StringBuilder text = new StringBuilder(m.group(1)).append(' ').append(m.group(2));
      for (String parameter : m.group(3).split(",")) {
        text.append(parameter.isBlank() ? "" : " " + parameter.trim().split(" ")[0]);
      }
      face.add(text.toString());
    }
    return face;
  }

  private static void face() throws IOException {
    Set<String> face = new TreeSet<>();
    Set<String> names = new TreeSet<>();
    for (Method m : VintageJams.class.getDeclaredMethods()) {
      if (!Modifier.isPrivate(m.getModifiers())) {
        Kit.due(m + " is public", Modifier.isPublic(m.getModifiers()), true);
        face.add(signature(m));
        names.add(m.getName());
      }
    }
    Kit.due("the face is the document's: " + face, face.equals(facePromised()), true);
    Kit.due("54 methods", face.size(), 54);
    Kit.due("public, final", VintageJams.class.getModifiers(), Modifier.PUBLIC | Modifier.FINAL);
    Constructor<?>[] constructors = VintageJams.class.getDeclaredConstructors();
    Kit.due("one constructor", constructors.length, 1);
    Kit.due("public", Modifier.isPublic(constructors[0].getModifiers()), true);
    for (Field f : VintageJams.class.getDeclaredFields()) {
      Kit.due(f + " is private", Modifier.isPrivate(f.getModifiers()), !f.getName().equals("NONE"));
    }
    Kit.due("NONE", VintageJams.NONE, -1);
    for (Class<?> inside : VintageJams.class.getDeclaredClasses()) {
      for (Method m : inside.getDeclaredMethods()) {
        Kit.due(m + " bears a public name", names.contains(m.getName()), false);
      }
    }
  }

  private static void nestedClasses() {
    Kit.due("twelve classes at most", VintageJams.class.getDeclaredClasses().length < 12, true);
    for (Class<?> inside : VintageJams.class.getDeclaredClasses()) {
      Kit.due(inside + " is static", Modifier.isStatic(inside.getModifiers()), true);
      int fields = 0;
      for (Field f : inside.getDeclaredFields()) {
        boolean isStatic = Modifier.isStatic(f.getModifiers());
        Kit.due(f + " is final if it is static", !isStatic || Modifier.isFinal(f.getModifiers()), true);
        fields += isStatic ? 0 : 1;
      }
      Kit.due(inside + " has twenty fields at most", fields <= 20, true);
      for (Method m : inside.getDeclaredMethods()) {
        Kit.due(m + " takes seven at most", m.getParameterCount() <= 7, true);
      }
    }
  }

  private static void source() throws IOException {
    String source = Files.readString(Path.of("src/main/java/VintageJams.java"));
    String code = source.replaceAll("(?s)/\\*.*?\\*/", "").replaceAll("//[^\n]*", "");
    for (String word : Arrays.asList("throw", "try", "catch", "synchronized", "assert", "import", "package", "Exact",
        "System", "null", "instanceof")) {
      Kit.due("the word " + word, Pattern.compile("\\b\\w*" + word + "\\b").matcher(code).find(), false);
    }
    Kit.due("no lambda", code.contains("->") || code.contains("::"), false);
    // whatever is made is made with the object: calls make nothing
    for (String line : code.split("\n")) {
      if (line.contains("new ")) {
        boolean isField = line.matches(" +(private )?final [\\w\\[\\]]+ \\w+ = new .*;");
        boolean isInConstructor = line.equals("      this.tokens = new Tokens(text);");
        Kit.due("made with the object: " + line, isField || isInConstructor, true);
      }
    }
    for (char sign : source.toCharArray()) {
      if (sign > 126) {
        Kit.due("a sign beyond 126", sign, 126);
      }
    }
  }
}
