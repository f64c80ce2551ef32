import java.lang.reflect.Constructor;
import java.lang.reflect.Field;
import java.lang.reflect.Method;
import java.lang.reflect.Modifier;
import java.nio.charset.StandardCharsets;
import java.nio.file.Files;
import java.nio.file.Path;
import java.util.ArrayList;
import java.util.Arrays;
import java.util.List;
import java.util.Set;
import java.util.TreeSet;
import java.util.regex.Matcher;
import java.util.regex.Pattern;

/** What of LANGUAGE.md can be seen in the text of the program and in its compiled classes. */
public final class LanguageTest {
  private static final String[] FACE = {
    "int row(int,int,int)", "int set(int,int,long)", "int copy(int,int,int,int,int)", "long element(int,int)",
    "int show(int,int)", "int holds(int)", "int says(int,int)", "int person(int,int,int,int,boolean)", "int go(int,int)",
    "int source(int,int,int,int)", "int hours(int,int,int)", "int cost(int,int)", "int off(int,boolean)",
    "int size(int,int)", "int weather(int,int)", "int pass(int)", "int laws(int)", "int law(int)", "int plan(int)",
    "int fault()", "int force(int)", "int sounds(int,int)", "int reach(int,int)", "int needs(int,int)",
    "int hears(int,int)", "int loudest(int,int)", "int press(int,boolean)", "int pressed(int,int,int,int)",
    "int match(int,int)", "int letter(int,int)", "long odds(int,int)", "int sure(int,int)", "int could(int,int)",
    "int lacks(int)", "int rid(int,int,int)", "int best(int,int,int)", "int lots(int,int)", "int need(int)",
    "int told(int)", "int beats(int,int)", "int halve(int)", "int meter(int,int,int,int)", "int place(int,int,int)",
    "int bed(int,int,int)", "int act(int,int,int)", "int trace(int)", "int image()", "int restore()", "int status(int)"};
  private static final Pattern FORBIDDEN = Pattern.compile(
      "\\b(throw|throws|try|catch|finally|synchronized|assert|import|package|native|volatile|transient|float|double"
          + "|Object|Random|Thread|Runtime|File|clone|hashCode|toString|equals)\\b|->|::|Exact\\b|NaN|@");
  private static final Pattern LIBRARY = Pattern.compile("\\b(Math|Integer|Long|System|Arrays|List|ArrayList)\\.(\\w+)");
  private static final Set<String> ALLOWED = Set.of(
      "Math.abs", "Math.max", "Math.min", "Integer.bitCount", "System.arraycopy");
  private static int wrong = 0;

  private static void must(boolean is, String what) {
    if (!is) {
      wrong++;
      System.out.println("against LANGUAGE.md: " + what);
    }
  }

  public static void main(String[] args) throws Exception {
    String text = Files.readString(Path.of(System.getProperty("hum.main", "src/main/java/HumUnheard.java")), StandardCharsets.UTF_8);
    checkText(text);
    checkMethods(text.split("\n"));
    checkFace();
    checkClasses();
    System.out.println(wrong == 0 ? "the program keeps to what can be seen of LANGUAGE.md" : wrong + " things against LANGUAGE.md");
    if (wrong != 0) System.exit(1);
  }

  private static String signature(Method m) {
    List<String> with = new ArrayList<>();
    for (Class<?> c : m.getParameterTypes()) with.add(c.getSimpleName());
    return m.getReturnType().getSimpleName() + " " + m.getName() + "(" + String.join(",", with) + ")";
  }

  private static void checkFace() {
    Class<?> face = HumUnheard.class;
    must(Modifier.isPublic(face.getModifiers()) && Modifier.isFinal(face.getModifiers()), "1: the class is public and final");
    Set<String> publics = new TreeSet<>();
    for (Method m : face.getDeclaredMethods()) {
      if (Modifier.isPublic(m.getModifiers())) publics.add(signature(m));
      else must(Modifier.isPrivate(m.getModifiers()), "1: neither public nor private: " + m);
    }
    must(publics.equals(new TreeSet<>(Arrays.asList(FACE))), "1: the methods are those of the document");
    for (Field f : face.getDeclaredFields()) {
      must(Modifier.isPrivate(f.getModifiers()) || f.getName().equals("NONE"), "1: a field that isn't private: " + f);
    }
    Constructor<?>[] made = face.getDeclaredConstructors();
    must(made.length == 1 && made[0].getParameterCount() == 0 && Modifier.isPublic(made[0].getModifiers()), "1: the constructor");
  }

  private static void checkClasses() {
    Set<String> names = new TreeSet<>();
    for (String one : FACE) names.add(one.substring(one.indexOf(' ') + 1, one.indexOf('(')));
    List<Class<?>> all = new ArrayList<>(Arrays.asList(HumUnheard.class.getDeclaredClasses()));
    for (Class<?> c : all) must(Modifier.isStatic(c.getModifiers()) && !Modifier.isPublic(c.getModifiers()), "2: " + c);
    all.add(HumUnheard.class);
    must(all.size() <= 12, "11: classes: " + all.size());
    for (Class<?> c : all) {
      int own = 0;
      for (Field f : c.getDeclaredFields()) {
        if (!Modifier.isStatic(f.getModifiers())) own++;
        else must(Modifier.isFinal(f.getModifiers()), "5: a static field that isn't final: " + f);
      }
      must(own <= 20, "11: fields of " + c + ": " + own);
      for (Method m : c.getDeclaredMethods()) {
        must(m.getParameterCount() <= 7, "11: parameters of " + m);
        must(!Modifier.isPrivate(m.getModifiers()) || !names.contains(m.getName()), "1: a private method's name: " + m);
      }
    }
  }

  private static void checkText(String text) {
    for (int i = 0; i < text.length(); i++) must(text.charAt(i) >= 1 && text.charAt(i) <= 127, "4: a sign at " + i);
    String code = text.replaceAll("(?s)/\\*.*?\\*/", "").replaceAll("//[^\n]*", "");
    Matcher m = FORBIDDEN.matcher(code);
    while (m.find()) must(false, "not in this part of Java: " + m.group());
    m = LIBRARY.matcher(code);
    while (m.find()) must(ALLOWED.contains(m.group()), "4: " + m.group());
    must(!Pattern.compile("\"\\s*\\+|\\+\\s*\"").matcher(code).find(), "10: texts joined by +");
  }

  private static void checkMethods(String[] lines) {
    for (int i = 0; i < lines.length; i++) {
      if (!lines[i].matches("( {4}| {8})\\w.*\\(.*\\) \\{")) continue;
      String end = lines[i].replaceAll("\\w.*", "") + "}";
      int j = i;
      while (j < lines.length && !lines[j].equals(end)) j++;
      must(j - i < 60, "11: a method of " + (j - i + 1) + " lines: " + lines[i].trim());
    }
  }
}
