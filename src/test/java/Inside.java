import java.lang.reflect.Array;
import java.lang.reflect.Field;
import java.lang.reflect.Modifier;
import java.util.Arrays;
import java.util.List;

/** All that an object holds, as a text: two texts alike tell that nothing changed between them. */
final class Inside {
  // Rows that are written anew by each call that uses them, and hold nothing from call to call.
  private static final List<String> SCRATCH = List.of("sideRow", "runRow");

  private Inside() {}

  static String of(Object held) {
    StringBuilder text = new StringBuilder();
    tell(held, text);
    return text.toString();
  }

  private static void tell(Object held, StringBuilder text) {
    if (held == null || held instanceof Number || held instanceof Boolean
        || held instanceof Character) {
      text.append(held).append(' ');
    } else if (held instanceof int[]) {
      text.append(((int[]) held).length).append(':').append(Arrays.hashCode((int[]) held));
      text.append(' ');
    } else if (held.getClass().isArray()) {
      for (int i = 0; i < Array.getLength(held); i++) tell(Array.get(held, i), text);
    } else {
      tellFields(held, text);
    }
  }

  private static void tellFields(Object held, StringBuilder text) {
    text.append(held.getClass().getSimpleName()).append('(');
    for (Field field : held.getClass().getDeclaredFields()) {
      if (Modifier.isStatic(field.getModifiers()) || SCRATCH.contains(field.getName())) continue;
      field.setAccessible(true);
      try {
        tell(field.get(held), text);
      } catch (IllegalAccessException e) {
        throw new IllegalStateException(e);
      }
    }
    text.append(')');
  }
}
