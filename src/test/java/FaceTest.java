import java.lang.reflect.Constructor;
import java.lang.reflect.Field;
import java.lang.reflect.Method;
import java.lang.reflect.Modifier;
import java.util.Arrays;
import java.util.Set;
import java.util.TreeSet;

/** The class shows what the document's face shows, and nothing else. */
final class FaceTest {
  private static final String I = "IndexOutOfBoundsException";
  private static final String A = "IllegalArgumentException";
  private static final String S = "IllegalStateException";

  private static final String[] FACE = {
    "int setSize(int,int) " + I + " " + A + " " + S,
    "int tune(int,int) " + I + " " + A,
    "int setStep(int,int,int,int) " + I + " " + S,
    "int setFill(int,int,int,int) " + I + " " + S,
    "int setFeel(int,int,int) " + I + " " + A + " " + S,
    "boolean freeze(int,boolean) " + I,
    "int addEntry(int,int,int) " + I + " " + A + " " + S,
    "int jump(int,int,int,int) " + I + " " + A + " " + S,
    "int bars(int) " + I,
    "int barAt(int,int) " + I,
    "int beats(int) " + I,
    "int beatsByTicks(int) " + I,
    "int addToSet(int) " + I + " " + S,
    "int clearSet() " + S,
    "int start() " + S,
    "int tick(int) " + A + " " + S,
    "int skip() " + S,
    "int place()",
    "int loaded(int) " + I,
    "int inHand()",
    "int nextUse(int) " + I,
    "int sounds()",
    "int misses()",
    "int soundNumber()",
  };

  public static void main(String[] args) {
    Class<BeatPages> face = BeatPages.class;
    Check.due("the class is public and final",
        Modifier.isPublic(face.getModifiers()) && Modifier.isFinal(face.getModifiers()), true);
    Check.due("NONE", BeatPages.NONE, -1);
    methods(face);
    fieldsAndConstructors(face);
    for (Class<?> inside : face.getDeclaredClasses()) {
      Check.due(inside.getName() + " is static and not public",
          Modifier.isStatic(inside.getModifiers()) && !Modifier.isPublic(inside.getModifiers()), true);
    }
    Check.finish("FaceTest");
  }

  private static void methods(Class<?> face) {
    Set<String> shown = new TreeSet<>();
    for (Method method : face.getDeclaredMethods()) {
      if (!Modifier.isPrivate(method.getModifiers())) {
        shown.add(told(method));
      }
    }
    Set<String> due = new TreeSet<>(Arrays.asList(FACE));
    for (String one : due) {
      Check.due("is shown: " + one, shown.contains(one), true);
    }
    for (String one : shown) {
      Check.due("is promised: " + one, due.contains(one), true);
    }
  }

  private static void fieldsAndConstructors(Class<?> face) {
    for (Field field : face.getDeclaredFields()) {
      int modifiers = field.getModifiers();
      boolean isNone = field.getName().equals("NONE");
      Check.due("field " + field.getName(),
          isNone ? Modifier.isPublic(modifiers) : Modifier.isPrivate(modifiers), true);
      Check.due("static field " + field.getName() + " is final",
          !Modifier.isStatic(modifiers) || Modifier.isFinal(modifiers), true);
    }
    Constructor<?>[] constructors = face.getDeclaredConstructors();
    Check.due("constructors", constructors.length, 1);
    Check.due("the constructor is public and takes nothing",
        Modifier.isPublic(constructors[0].getModifiers()) && constructors[0].getParameterCount() == 0, true);
  }

  private static String told(Method method) {
    StringBuilder text = new StringBuilder();
    text.append(method.getReturnType().getSimpleName()).append(' ').append(method.getName()).append('(');
    String between = "";
    for (Class<?> type : method.getParameterTypes()) {
      text.append(between).append(type.getSimpleName());
      between = ",";
    }
    text.append(')');
    for (Class<?> type : method.getExceptionTypes()) {
      text.append(' ').append(type.getSimpleName());
    }
    return text.toString();
  }
}
