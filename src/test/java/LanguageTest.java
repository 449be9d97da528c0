import java.io.IOException;
import java.lang.reflect.Constructor;
import java.lang.reflect.Field;
import java.lang.reflect.Method;
import java.lang.reflect.Modifier;
import java.nio.file.Files;
import java.nio.file.Path;
import java.util.ArrayList;
import java.util.Arrays;
import java.util.Collections;
import java.util.List;
import java.util.regex.Matcher;
import java.util.regex.Pattern;

/** The face of the class, and those rules of LANGUAGE.md that can be read off its text or by reflection. */
public final class LanguageTest {
  private static int wrong = 0;

  private static final String[] FACE = {"supply(III)I", "supplied(II)I", "share(II)I", "group(II)I", "feed(I)I",
      "orders()I", "of(II)I", "promise(I)I", "promiseAll()I", "giveUp(I)I", "gone(I)I", "move(II)I", "swap(II)I",
      "left(I)I", "hinders(II)I", "could(II)I", "spare(II)I", "filled(I)I", "range(IIII)I", "late()I", "kept(I)I",
      "why(I)I", "ledger(II)I", "row(II)I", "put(IIJ)I", "get(II)J", "from(IIII)I", "lefts(II)I", "undo()I", "redo()I",
      "image()I", "back()I", "count(I)I"};

  private static final long[] ARGUMENTS = {Integer.MIN_VALUE, Integer.MIN_VALUE + 1, -10001, -101, -25, -13, -12, -2, -1, 0, 1,
      2, 3, 4, 5, 6, 7, 8, 9, 10, 11, 12, 13, 23, 24, 25, 30, 31, 32, 33, 35, 59, 60, 61, 97, 98, 99, 100, 101, 126, 127, 128,
      10000, 120000, 121211, 121212, 121213, 130000, 1 << 16, Integer.MAX_VALUE - 12, Integer.MAX_VALUE - 1, Integer.MAX_VALUE};

  private static final String[] TEXTS = {"6ab@4g1r2", ";", "5a@11;3bc@7r9", "1c@0", "60abc@11g3", "9b", "@", "x", "0a@1"};

  /** These would lay all back too often. */
  private static final List<String> SWEEPING = List.of("undo", "back", "gone", "image", "share", "giveUp", "feed");

  private static long seed = 77;

  public static void main(String[] args) throws IOException {
    face();
    nested();
    for (int run = 0; run < 40; run++) calls();
    String text = Files.readString(Path.of("src/main/java/PromiseMind.java"));
    words(text);
    methods(text);
    System.out.println(wrong == 0 ? "the face and the language are as due" : wrong + " rules are broken");
    if (wrong != 0) System.exit(1);
  }

  private static void check(boolean fine, String what) {
    if (fine) return;
    wrong++;
    System.out.println(what);
  }

  private static int any(int bound) {
    seed = seed * 6364136223846793005L + 1442695040888963407L;
    return (int) ((seed >>> 33) % bound);
  }

  /** Rule 7, rule 13: far more than 512 calls with any arguments, to two objects in step: none throws, all answer alike. */
  private static void calls() {
    PromiseMind mind = new PromiseMind();
    PromiseMind twin = new PromiseMind();
    Method[] all = PromiseMind.class.getDeclaredMethods();
    Arrays.sort(all, (x, y) -> x.getName().compareTo(y.getName()));
    for (int i = 0; i < 5000; i++) {
      Method m = all[any(all.length)];
      if (!Modifier.isPublic(m.getModifiers()) || (SWEEPING.contains(m.getName()) && any(8) != 0)) continue;
      if (m.getName().equals("orders")) {
        check(mind.orders() == twin.orders(), "rule 13: orders");
        for (char c : TEXTS[any(TEXTS.length)].toCharArray()) check(mind.feed(c) == twin.feed(c), "rule 13: feed");
      }
      int item = any(3), period = any(12), n = any(20);
      check(any(3) != 0 || mind.supply(item, period, n) == twin.supply(item, period, n), "rule 13: supply");
      Object[] args = new Object[m.getParameterCount()];
      for (int k = 0; k < args.length; k++) {
        long v = any(4) == 0 ? ARGUMENTS[any(ARGUMENTS.length)] : any(any(2) == 0 ? 3 : 12);
        if (m.getParameterTypes()[k] == long.class) args[k] = any(20) == 0 ? Long.MAX_VALUE - v : v;
        else args[k] = (int) v;
      }
      try {
        check(m.invoke(mind, args).equals(m.invoke(twin, args)), "rule 13: " + m.getName() + Arrays.toString(args));
      } catch (ReflectiveOperationException e) {
        check(false, "rule 7: " + m.getName() + Arrays.toString(args) + " threw " + e.getCause());
        return;
      }
    }
  }

  private static String sign(Class<?> type) {
    return type == int.class ? "I" : type == long.class ? "J" : "?";
  }

  private static void face() {
    Class<?> c = PromiseMind.class;
    check(Modifier.isPublic(c.getModifiers()) && Modifier.isFinal(c.getModifiers()), "the class is public and final");
    List<String> open = new ArrayList<>();
    for (Method m : c.getDeclaredMethods()) {
      StringBuilder s = new StringBuilder(m.getName()).append('(');
      for (Class<?> p : m.getParameterTypes()) s.append(sign(p));
      s.append(')').append(sign(m.getReturnType()));
      if (Modifier.isPublic(m.getModifiers()) && !Modifier.isStatic(m.getModifiers())) open.add(s.toString());
      else check(Modifier.isPrivate(m.getModifiers()), "rule 1: " + s);
    }
    List<String> want = new ArrayList<>(Arrays.asList(FACE));
    Collections.sort(open);
    Collections.sort(want);
    check(open.equals(want), "the methods are " + open);
    Constructor<?>[] made = c.getDeclaredConstructors();
    check(made.length == 1 && Modifier.isPublic(made[0].getModifiers()) && made[0].getParameterCount() == 0, "constructor");
    int constants = 0;
    int fields = 0;
    for (Field f : c.getDeclaredFields()) {
      if (Modifier.isPublic(f.getModifiers())) constants++;
      else check(Modifier.isPrivate(f.getModifiers()), "rule 1: field " + f.getName());
      if (Modifier.isStatic(f.getModifiers())) check(Modifier.isFinal(f.getModifiers()), "rule 5: " + f.getName());
      else fields++;
    }
    check(constants == 5, "the constants");
    check(fields <= 20, "rule 11: fields");
  }

  private static void nested() {
    Class<?>[] inside = PromiseMind.class.getDeclaredClasses();
    check(inside.length <= 11, "rule 11: classes");
    List<String> faceNames = new ArrayList<>();
    for (String f : FACE) faceNames.add(f.substring(0, f.indexOf('(')));
    for (Class<?> c : inside) {
      check(Modifier.isStatic(c.getModifiers()) && !Modifier.isPublic(c.getModifiers()), "rule 2: " + c.getName());
      int fields = 0;
      for (Field f : c.getDeclaredFields()) if (!Modifier.isStatic(f.getModifiers())) fields++;
      check(fields <= 20, "rule 11: fields of " + c.getName());
      for (Method m : c.getDeclaredMethods()) {
        check(!faceNames.contains(m.getName()), "rule 1: " + c.getName() + "." + m.getName());
        check(m.getParameterCount() <= 7, "rule 11: " + m.getName());
      }
    }
  }

  private static void words(String text) {
    String code = text.replaceAll("(?s)/\\*.*?\\*/", "").replaceAll("//[^\n]*", "");
    String[] banned = {"throw", "throws", "try", "catch", "finally", "synchronized", "assert", "->", "::", "@",
        "Exact\\(", "hashCode", "toString", "equals", "double", "float", "System\\.(?!arraycopy\\()", "Thread", "Random",
        "\\bMath\\.(?!max\\(|min\\()", "Integer\\.(?!bitCount\\()", "Arrays\\.(?!fill\\()", "%=", "\" \\+", "\\+ \""};
    String noTexts = code.replaceAll("'(\\\\.|[^'])'", "''");
    for (String b : banned) {
      String word = b.matches("[a-z]+") ? "\\b" + b + "\\b" : b;
      Matcher m = Pattern.compile(word).matcher(noTexts);
      check(!m.find(), "LANGUAGE.md keeps out: " + b);
    }
    for (int i = 0; i < text.length(); i++) {
      check(text.charAt(i) < 127, "sign " + (int) text.charAt(i) + " at " + i);
    }
    Matcher imports = Pattern.compile("import ([^;]*);").matcher(code);
    while (imports.find()) check(imports.group(1).equals("java.util.Arrays"), "rule 4: " + imports.group(1));
    Matcher loops = Pattern.compile("while \\((true|1)|for \\(;").matcher(code);
    check(!loops.find(), "rule 9: a loop without a bound");
    Matcher made = Pattern.compile("(?m)^ {8,}.*\\bnew \\w+").matcher(code);
    while (made.find()) {
      String line = made.group().trim();
      check(line.startsWith("private final") || line.contains("new State"), "made in a call: " + line);
    }
  }

  private static void methods(String text) {
    String[] lines = text.split("\n");
    for (int i = 0; i < lines.length; i++) {
      check(lines[i].length() <= 125, "line " + (i + 1) + " is long");
      Matcher m = Pattern.compile("^( {4}| {8})\\S.*\\) \\{$").matcher(lines[i]);
      if (!m.find() || lines[i].matches(" *(if|for|while|switch|\\}).*")) continue;
      int end = i;
      while (end < lines.length && !lines[end].equals(m.group(1) + "}")) end++;
      check(end - i <= 60, "rule 11: the method at line " + (i + 1) + " is long");
    }
  }
}
