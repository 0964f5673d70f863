import java.lang.reflect.Field;
import java.lang.reflect.Member;
import java.lang.reflect.Method;
import java.lang.reflect.Modifier;
import java.io.IOException;
import java.nio.file.Files;
import java.nio.file.Path;
import java.util.ArrayList;
import java.util.List;
import java.util.Set;
import java.util.TreeSet;
import java.util.regex.Matcher;
import java.util.regex.Pattern;

/** The document's face and those rules of LANGUAGE.md that a plain look at the source can tell. Runs at the root. */
public final class FaceTest {
  private static final Path SOURCE = Path.of("src/main/java/FedHen.java");
  private static final Path DOCUMENT = Path.of("../shared/DOC.md");
  private static final String BANNED = "\\b(throw|throws|try|catch|synchronized|assert|import|package|native|volatile"
      + "|transient|protected|Object|System\\.(?!arraycopy)\\w+|Math\\.\\w+Exact|equals|hashCode|toString)\\b|->|::|@";

  public static void main(String[] args) throws IOException {
    face();
    members(FedHen.class);
    for (Class<?> inner : FedHen.class.getDeclaredClasses()) {
      int m = inner.getModifiers();
      no("the class " + inner + " is public or protected", Modifier.isPublic(m) || Modifier.isProtected(m));
      no("the class " + inner + " isn't static", !Modifier.isStatic(m));
      fields(inner);
    }
    signatures();
    source();
    Check.end();
  }

  private static void no(String what, boolean isSo) {
    Check.due(what, isSo ? 1 : 0, 0);
  }

  private static void face() throws IOException {
    Set<String> due = new TreeSet<>();
    Matcher m = Pattern.compile("    public int (\\w+)\\(([^)]*)\\);").matcher(Files.readString(DOCUMENT));
    while (m.find()) {
      due.add(m.group(1) + " " + (m.group(2).isEmpty() ? 0 : m.group(2).split(",").length));
    }
    Set<String> got = new TreeSet<>();
    Set<String> hidden = new TreeSet<>();
    List<Class<?>> all = new ArrayList<>(List.of(FedHen.class.getDeclaredClasses()));
    all.add(FedHen.class);
    for (Class<?> c : all) {
      for (Method method : c.getDeclaredMethods()) {
        if (Modifier.isPublic(method.getModifiers())) {
          no(method + " doesn't answer an int", method.getReturnType() != int.class);
          got.add(method.getName() + " " + method.getParameterCount());
        } else {
          hidden.add(method.getName());
        }
        no(method + " has too many parameters", method.getParameterCount() > 7);
      }
    }
    Check.due("methods of the face", got.size(), 46);
    no("the face is " + got + ", due is " + due, !got.equals(due));
    for (String name : due) {
      no("a private method bears the name " + name, hidden.contains(name.substring(0, name.indexOf(' '))));
    }
    Check.due("constructors", FedHen.class.getDeclaredConstructors().length, 1);
    Check.due("public constructors", FedHen.class.getConstructors().length, 1);
    no("FedHen isn't final", !Modifier.isFinal(FedHen.class.getModifiers()));
  }

  private static void members(Class<?> c) {
    List<Member> all = new ArrayList<>(List.of(c.getDeclaredFields()));
    all.addAll(List.of(c.getDeclaredMethods()));
    for (Member member : all) {
      boolean isMethod = member instanceof Method;
      int m = member.getModifiers();
      no(member + " is no part of the face", !Modifier.isPrivate(m) && !(isMethod && Modifier.isPublic(m)));
    }
    fields(c);
  }

  private static void fields(Class<?> c) {
    int own = 0;
    for (Field field : c.getDeclaredFields()) {
      boolean isStatic = Modifier.isStatic(field.getModifiers());
      no(field + " is static, but not final", isStatic && !Modifier.isFinal(field.getModifiers()));
      own += isStatic ? 0 : 1;
    }
    no(c + " has " + own + " fields", own > 20);
  }

  /** The parameters bear the document's names, and the source has no other public line. */
  private static void signatures() throws IOException {
    Check.due("the public lines of the source, as told", publicLines(SOURCE).equals(publicLines(DOCUMENT)) ? 1 : 0, 1);
  }

  private static List<String> publicLines(Path path) throws IOException {
    List<String> all = new ArrayList<>();
    Matcher m = Pattern.compile("(?m)^ *(public [^;{]*)").matcher(Files.readString(path));
    while (m.find()) {
      all.add(m.group(1).trim());
    }
    return all;
  }

  private static void source() throws IOException {
    String text = Files.readString(SOURCE);
    no("a sign beyond 127", text.chars().anyMatch(c -> c > 126));
    String code = text.replaceAll("(?s)/\\*.*?\\*/|//[^\n]*", "").replaceAll("\"[^\"\n]*\"", "\"\"");
    Matcher m = Pattern.compile(BANNED).matcher(code);
    while (m.find()) {
      no("the word " + m.group() + " stands in the source", true);
    }
    int begin = -1;
    String[] lines = text.split("\n");
    for (int i = 0; i < lines.length; i++) {
      if (lines[i].matches(" {2}(| {2})(public|private)[^;=]*\\{") && !lines[i].contains(" class ")) {
        begin = i;
      } else if (lines[i].matches(" {2}(| {2})\\}") && begin >= 0) {
        no("the method at line " + (begin + 1) + " is long", i - begin > 60);
        begin = -1;
      }
    }
  }
}
