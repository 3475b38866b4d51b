import java.io.IOException;
import java.lang.reflect.Executable;
import java.lang.reflect.Field;
import java.lang.reflect.Member;
import java.lang.reflect.Method;
import java.lang.reflect.Modifier;
import java.nio.file.Files;
import java.nio.file.Path;
import java.util.ArrayList;
import java.util.List;
import java.util.Set;
import java.util.TreeSet;
import java.util.regex.Matcher;
import java.util.regex.Pattern;

/** The rules of ../shared/LANGUAGE.md that a program can look at; the first argument is the file. */
final class LanguageTest extends Bench {
  private static final String[] FORBIDDEN = {
    "->", "::", "\\bfinally\\b", "\\bsynchronized\\b", "\\bassert\\b", "\\bvolatile\\b", "\\bvar\\b",
    "\\bgetClass\\b", "\\bhashCode\\b", "\\bequals\\b", "\\btoString\\b", "\\bgetMessage\\b", "Exact\\b",
    "\\bstatic\\s*\\{", "\\bThread\\b", "\\bRandom\\b", "\\bObject\\b", "\\bLocal\\w+", "\\bordinal\\b",
    "\\bSystem\\.(?!arraycopy\\b)", "\\bArrays\\.(?!(copyOf|copyOfRange|fill)\\b)", "\\bpackage\\b"
  };
  private static final Set<String> IMPORTS = Set.of(
      "java.util.ArrayList", "java.util.Arrays", "java.util.Iterator", "java.util.List",
      "java.util.NoSuchElementException");
  private static final String FACE = "[collect(), count(int), global(int), output(int), place(int, int), "
      + "put(int, int, int, int), register(int, int), run(int, int), thread(int, int), turn(int)]";

  public static void main(String[] args) throws IOException {
    String text = Files.readString(Path.of(args[0]));
    words(text.replaceAll("(?s)/\\*.*?\\*/", "").replaceAll("//[^\n]*", ""));
    methodsAreShort(text);
    face();
    classes();
    finish("LanguageTest");
  }

  private static void words(String text) {
    for (String word : FORBIDDEN) {
      Matcher found = Pattern.compile(word).matcher(text);
      due("places with " + word, found.results().count(), 0);
    }
    Matcher imports = Pattern.compile("import ([^;]*);").matcher(text);
    while (imports.find()) {
      due("import " + imports.group(1), IMPORTS.contains(imports.group(1)) ? 1 : 0, 1);
    }
    due("signs above 126", text.chars().filter(sign -> sign > 126).count(), 0);
  }

  /** A method begins at a line that ends in an opening brace and ends at the brace below its first sign. */
  private static void methodsAreShort(String text) {
    String[] lines = text.split("\n");
    for (int i = 0; i < lines.length; i++) {
      due("length of line " + (i + 1) + " is fine", lines[i].length() <= 100 ? 1 : 0, 1);
      if (lines[i].matches(" {2,4}(private|public) .*\\) .*\\{")) {
        String end = lines[i].replaceAll("\\S.*", "") + "}";
        int last = i;
        while (last < lines.length && !lines[last].equals(end)) {
          last++;
        }
        due("length of the method at line " + (i + 1) + " is fine", last - i < 60 ? 1 : 0, 1);
      }
    }
  }

  private static String shown(Method method) {
    List<String> types = new ArrayList<>();
    for (Class<?> type : method.getParameterTypes()) {
      types.add(type.getSimpleName());
    }
    return method.getName() + "(" + String.join(", ", types) + ")";
  }

  private static void face() {
    Set<String> open = new TreeSet<>();
    Set<String> names = new TreeSet<>();
    for (Method method : AtomicRuntime.class.getDeclaredMethods()) {
      if (!Modifier.isPrivate(method.getModifiers())) {
        open.add(shown(method));
        names.add(method.getName());
      }
    }
    due("the face is " + open, open.toString().equals(FACE) ? 1 : 0, 1);
    due("the class is public and final", AtomicRuntime.class.getModifiers(), Modifier.PUBLIC | Modifier.FINAL);
    for (Field field : AtomicRuntime.class.getDeclaredFields()) {
      due(field + " is private", Modifier.isPrivate(field.getModifiers()) ? 1 : 0, 1);
    }
    List<Class<?>> all = all();
    for (Class<?> one : all) {
      for (Method method : one.getDeclaredMethods()) {
        boolean hidden = Modifier.isPrivate(method.getModifiers());
        due(method + " has a name of its own", hidden && names.contains(method.getName()) ? 1 : 0, 0);
      }
    }
  }

  private static List<Class<?>> all() {
    List<Class<?>> all = new ArrayList<>();
    all.add(AtomicRuntime.class);
    all.addAll(List.of(AtomicRuntime.class.getDeclaredClasses()));
    return all;
  }

  private static void classes() {
    due("the number of classes is fine", all().size() <= 12 ? 1 : 0, 1);
    for (Class<?> one : all()) {
      int fields = 0;
      for (Field field : one.getDeclaredFields()) {
        boolean isStatic = Modifier.isStatic(field.getModifiers());
        fields += isStatic ? 0 : 1;
        due(field + " is final or no static one", isStatic && !Modifier.isFinal(field.getModifiers()) ? 1 : 0, 0);
      }
      due("the number of fields is fine: " + one, fields <= 20 ? 1 : 0, 1);
      List<Member> members = new ArrayList<>(List.of(one.getDeclaredMethods()));
      members.addAll(List.of(one.getDeclaredConstructors()));
      for (Member member : members) {
        due("parameters of " + member, ((Executable) member).getParameterCount() <= 7 ? 1 : 0, 1);
      }
    }
  }
}
