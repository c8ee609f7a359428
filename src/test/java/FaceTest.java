import java.io.IOException;
import java.lang.reflect.Constructor;
import java.lang.reflect.Field;
import java.lang.reflect.Method;
import java.lang.reflect.Modifier;
import java.nio.charset.StandardCharsets;
import java.nio.file.Files;
import java.nio.file.Path;
import java.util.Set;
import java.util.TreeSet;

/** The class's face is that of ../shared/DOC.md, and its text keeps to rules that can be read off. */
public final class FaceTest {
  private static final String[] BANNED = {
    "->", "::", "try {", "catch", "finally", "synchronized", "assert ", "Exact(", "static {",
    "Random", "Thread", "nanoTime", "currentTime", "System.out", "java.io", "instanceof", "var ",
    "equals(", "hashCode", "toString", "protected", "package ", "\" +", "+ \"", "Object",
  };

  private static int wrong;

  private static void needed(boolean holds, String what) {
    if (!holds) {
      wrong++;
      System.out.println(what);
    }
  }

  private static Set<String> documentedFace(String document) {
    Set<String> face = new TreeSet<>();
    String code = document.substring(document.indexOf("```java"), document.indexOf("\n}\n```"));
    for (String line : code.split("\n")) {
      if (!line.startsWith("    public ") || line.contains("Segueworks()")) continue;
      String told = line.trim().replace("public ", "").replace(";", "");
      int open = told.indexOf('(');
      int close = told.indexOf(')');
      StringBuilder types = new StringBuilder();
      for (String parameter : told.substring(open + 1, close).split(", ")) {
        types.append(parameter.split(" ")[0]).append(' ');
      }
      String thrown = told.substring(close + 1).replace(" throws ", "");
      face.add(told.substring(0, open) + "(" + types.toString().trim() + ") " + thrown);
    }
    return face;
  }

  private static String toldOf(Method method) {
    StringBuilder types = new StringBuilder();
    for (Class<?> type : method.getParameterTypes()) types.append(type.getSimpleName()).append(' ');
    StringBuilder thrown = new StringBuilder();
    for (Class<?> type : method.getExceptionTypes()) {
      thrown.append(thrown.length() == 0 ? "" : ", ").append(type.getSimpleName());
    }
    String head = method.getReturnType().getSimpleName() + " " + method.getName();
    return head + "(" + types.toString().trim() + ") " + thrown;
  }

  private static void checkFace(Set<String> due) {
    Set<String> real = new TreeSet<>();
    Set<String> names = new TreeSet<>();
    for (Method method : Segueworks.class.getDeclaredMethods()) {
      boolean open = Modifier.isPublic(method.getModifiers());
      needed(open || Modifier.isPrivate(method.getModifiers()), method + " is neither");
      if (open) {
        real.add(toldOf(method));
        names.add(method.getName());
      }
    }
    needed(due.size() == 50, "the document was read wrong: " + due.size() + " methods");
    needed(real.equals(due), "the face is " + real + ", due is " + due);
    for (Method method : Segueworks.class.getDeclaredMethods()) {
      boolean hides = Modifier.isPrivate(method.getModifiers()) && names.contains(method.getName());
      needed(!hides, method + " bears the name of a public one");
    }
  }

  private static void checkMembers() {
    needed(Modifier.isFinal(Segueworks.class.getModifiers()), "the class is not final");
    Constructor<?>[] constructors = Segueworks.class.getConstructors();
    needed(constructors.length == 1 && constructors[0].getParameterCount() == 0, "constructors");
    for (Field field : Segueworks.class.getDeclaredFields()) {
      needed(Modifier.isPrivate(field.getModifiers()), field + " is not private");
      boolean constant = Modifier.isFinal(field.getModifiers());
      needed(!Modifier.isStatic(field.getModifiers()) || constant, field + " is static state");
    }
    for (Class<?> inside : Segueworks.class.getDeclaredClasses()) {
      int is = inside.getModifiers();
      needed(Modifier.isStatic(is) && !Modifier.isPublic(is), inside + " is not static or public");
      needed(inside.getDeclaredFields().length <= 20, inside + " has more than 20 fields");
    }
  }

  private static void checkText(String text) {
    for (String word : BANNED) needed(!text.contains(word), "the class's text has " + word);
    int imports = text.split("import ", -1).length - 1;
    boolean one = imports == 1 && text.startsWith("import java.util.NoSuchElementException;");
    needed(one, "the class imports more than NoSuchElementException");
    int length = 0;
    for (String line : text.split("\n")) {
      length = line.isEmpty() ? 0 : length + 1;
      boolean isConstant = line.contains(" static final ");
      needed(length <= 60 || isConstant, "a method is longer than 60 lines near: " + line);
      needed(line.split(", ", -1).length <= 8, "too many parameters: " + line);
    }
    for (int i = 0; i < text.length(); i++) needed(text.charAt(i) < 128, "a sign beyond 127");
  }

  private static String read(String path) throws IOException {
    return new String(Files.readAllBytes(Path.of(path)), StandardCharsets.UTF_8);
  }

  public static void main(String[] args) throws IOException {
    checkFace(documentedFace(read("../shared/DOC.md")));
    checkMembers();
    checkText(read("src/main/java/Segueworks.java"));
    System.out.println(wrong == 0 ? "all is as due" : wrong + " things are not as due");
    if (wrong != 0) System.exit(1);
  }
}
