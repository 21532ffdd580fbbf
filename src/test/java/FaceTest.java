import java.lang.reflect.Constructor;
import java.lang.reflect.Field;
import java.lang.reflect.Method;
import java.lang.reflect.Modifier;
import java.util.Set;
import java.util.TreeSet;

/** The class has the document's face and nothing else that can be seen. */
public final class FaceTest {
  private static final Set<String> FACE = Set.of(
      "public static final int ImageGate.NONE",
      "public ImageGate()",
      "public boolean ImageGate.feed(int,int,int,int,int)",
      "public boolean ImageGate.end(int)",
      "public boolean ImageGate.set(int,int)",
      "public boolean ImageGate.put(int,int,int)",
      "public int ImageGate.length()",
      "public boolean ImageGate.argument()",
      "public boolean ImageGate.letters(long)",
      "public void ImageGate.forget()",
      "public int ImageGate.load(int)",
      "public int ImageGate.why()",
      "public int ImageGate.about(int)",
      "public int ImageGate.at(int)",
      "public int ImageGate.flags(int)");

  public static void main(String[] args) {
    Check check = new Check();
    check.due("modifiers", ImageGate.class.getModifiers(), Modifier.PUBLIC | Modifier.FINAL);
    Set<String> seen = seen();
    for (String member : FACE) {
      check.yes("the face has " + member, seen.contains(member));
    }
    for (String member : seen) {
      check.yes("the document has " + member, FACE.contains(member));
    }
    for (Class<?> inside : ImageGate.class.getDeclaredClasses()) {
      check.yes(inside + " is static", Modifier.isStatic(inside.getModifiers()));
      check.no(inside + " is public", Modifier.isPublic(inside.getModifiers()));
    }
    check.finish();
  }

  private static Set<String> seen() {
    Set<String> seen = new TreeSet<>();
    for (Field field : ImageGate.class.getDeclaredFields()) {
      if (!Modifier.isPrivate(field.getModifiers()) && !field.isSynthetic()) {
        seen.add(field.toString());
      }
    }
    for (Method method : ImageGate.class.getDeclaredMethods()) {
      if (!Modifier.isPrivate(method.getModifiers()) && !method.isSynthetic()) {
        seen.add(method.toString());
      }
    }
    for (Constructor<?> constructor : ImageGate.class.getDeclaredConstructors()) {
      if (!Modifier.isPrivate(constructor.getModifiers()) && !constructor.isSynthetic()) {
        seen.add(constructor.toString());
      }
    }
    return seen;
  }
}
