import java.lang.reflect.Constructor;
import java.lang.reflect.Field;
import java.lang.reflect.Method;
import java.lang.reflect.Modifier;
import java.nio.file.Files;
import java.nio.file.Path;
import java.util.ArrayList;
import java.util.Arrays;
import java.util.HashSet;
import java.util.List;
import java.util.Set;
import java.util.TreeSet;
import java.util.regex.Matcher;
import java.util.regex.Pattern;

/** Those rules of LANGUAGE.md that can be seen in the source and in the compiled class. */
public final class LanguageTest {
  private static final Path SOURCE = Path.of("src/main/java/RotMoney.java");
  private static final String[] FACE = {"feed/5", "end/1", "town/0", "fault/1", "told/1", "earns/2",
      "price/2", "made/2", "wants/3", "night/3", "may/5", "best/5", "bestAct/5", "wayAct/5", "way/2",
      "pass/1", "run/2", "all/1", "anew/0", "keep/1", "take/1", "worthAt/2", "rate/1", "rest/1",
      "restTurns/0", "two/7", "lend/4", "early/3", "values/0", "meet/6", "rests/3", "book/0", "count/1"};
  private static int wrong = 0;

  private static void must(boolean fine, String rule) {
    if (!fine) {
      wrong++;
      System.out.println("broken: " + rule);
    }
  }

  private static void face() {
    Set<String> due = new TreeSet<>(Arrays.asList(FACE));
    Set<String> names = new HashSet<>();
    Set<String> got = new TreeSet<>();
    for (String row : FACE) {
      names.add(row.substring(0, row.indexOf('/')));
    }
    List<Class<?>> classes = new ArrayList<>(Arrays.asList(RotMoney.class.getDeclaredClasses()));
    for (Method m : RotMoney.class.getDeclaredMethods()) {
      if (Modifier.isPublic(m.getModifiers())) {
        got.add(m.getName() + "/" + m.getParameterCount());
        must(m.getReturnType() == int.class, "1: " + m + " answers an int");
      } else {
        must(Modifier.isPrivate(m.getModifiers()) && !names.contains(m.getName()), "1: " + m);
      }
    }
    must(got.equals(due), "1: the face is " + got);
    must(Modifier.isFinal(RotMoney.class.getModifiers()), "1: final");
    Constructor<?>[] made = RotMoney.class.getDeclaredConstructors();
    must(made.length == 1 && Modifier.isPublic(made[0].getModifiers())
        && made[0].getParameterCount() == 0, "1: the constructor");
    Set<String> constants = new TreeSet<>();
    for (Field f : RotMoney.class.getDeclaredFields()) {
      if (Modifier.isPublic(f.getModifiers())) {
        constants.add(f.getName());
      } else {
        must(Modifier.isPrivate(f.getModifiers()), "1: " + f);
      }
    }
    must(constants.equals(new TreeSet<>(Arrays.asList("NONE", "RANGE", "FULL", "STATE"))), "1: " + constants);
    must(classes.size() < 12, "11: " + classes.size() + " classes inside");
    classes.add(RotMoney.class);
    for (Class<?> c : classes) {
      inside(c, names);
    }
  }

  private static void inside(Class<?> c, Set<String> faceNames) {
    must(c == RotMoney.class || Modifier.isStatic(c.getModifiers()) && Modifier.isPrivate(c.getModifiers()),
        "2: " + c);
    int fields = 0;
    for (Field f : c.getDeclaredFields()) {
      if (Modifier.isStatic(f.getModifiers())) {
        must(Modifier.isFinal(f.getModifiers()), "5: " + f);
        must(f.getType().isPrimitive() || f.getType() == String.class, "5: " + f);
      } else {
        fields++;
      }
    }
    must(fields <= 20, "11: " + c + " has " + fields + " fields");
    for (Method m : c.getDeclaredMethods()) {
      must(m.getParameterCount() <= 7, "11: " + m);
      must(c == RotMoney.class || !faceNames.contains(m.getName()), "1: " + m);
      must(!m.isSynthetic(), "2: " + m);
    }
  }

  /** The source without comments, texts and signs in quotes. */
  private static String bare(String source) {
    return source.replaceAll("(?s)/\\*.*?\\*/", "").replaceAll("//[^\n]*", "")
        .replaceAll("\"[^\"\n]*\"", "\"\"").replaceAll("'[^'\n]+'", "' '");
  }

  private static void words(String code) {
    String[] banned = {"throw", "throws", "try", "catch", "synchronized", "assert", "volatile", "native",
        "Thread", "Object", "Exception", "Integer", "Random", "enum", "interface", "var", "yield", "super"};
    for (String word : banned) {
      must(!Pattern.compile("\\b" + word + "\\b").matcher(code).find(), "the word " + word);
    }
    must(!code.contains("->") && !code.contains("::") && !code.contains("@"), "2: lambdas, annotations");
    must(!code.contains("Exact("), "4: Exact");
    must(!code.contains("double") && !code.contains("float"), "3: no broken numbers are needed");
    must(!Pattern.compile("while \\(true\\)|for \\(;;").matcher(code).find(), "9: loops without an end");
    Matcher library = Pattern.compile("\\b(System|Arrays|Math|Long)\\.(\\w+)").matcher(code);
    Set<String> allowed = Set.of("System.arraycopy", "Arrays.fill", "Math.min", "Math.max", "Math.floorMod");
    while (library.find()) {
      must(allowed.contains(library.group()), "4: " + library.group());
    }
    Matcher imports = Pattern.compile("import ([\\w.]+);").matcher(code);
    while (imports.find()) {
      must(imports.group(1).equals("java.util.Arrays"), "4: " + imports.group(1));
    }
  }

  /** Methods stay short, and nothing is made outside constructors and fields. */
  private static void methods(String source) {
    Matcher head = Pattern.compile("(?m)^( +)(?:public |private )?(?:static )?(\\w+(?:\\[\\])? )?"
        + "(\\w+)\\([^)]*\\) \\{$").matcher(source);
    int found = 0;
    while (head.find()) {
      String word = head.group(3);
      if (word.equals("if") || word.equals("for") || word.equals("while") || word.equals("switch")) {
        continue;
      }
      found++;
      int end = source.indexOf("\n" + head.group(1) + "}", head.end());
      String body = source.substring(head.start(), end);
      long lines = body.chars().filter(c -> c == '\n').count() + 2;
      must(lines <= 60, "11: " + word + " has " + lines + " lines");
      must(head.group(2) == null || !bare(body).contains("new "), "12: " + word + " makes objects");
    }
    must(found > 100, "the methods are found: " + found);
  }

  /** No call throws, whatever its numbers are. */
  private static void extremes(String town) throws IllegalAccessException {
    int[] numbers = {Integer.MIN_VALUE, -1, 0, 1, Integer.MAX_VALUE};
    for (Method m : RotMoney.class.getDeclaredMethods()) {
      int many = m.getParameterCount();
      for (int i = 0; Modifier.isPublic(m.getModifiers()) && i < Math.pow(numbers.length, many); i++) {
        if (many == 7 && i % 7 != 0) {
          continue;
        }
        RotMoney x = new RotMoney();
        Texts.town(x, town);
        Object[] args = new Object[many];
        for (int k = 0, rest = i; k < many; k++, rest /= numbers.length) {
          args[k] = numbers[rest % numbers.length];
        }
        try {
          m.invoke(x, args);
        } catch (java.lang.reflect.InvocationTargetException e) {
          must(false, "7: " + m.getName() + Arrays.toString(args) + " threw " + e.getCause());
        }
      }
    }
  }

  public static void main(String[] args) throws Exception {
    String source = Files.readString(SOURCE);
    must(source.chars().allMatch(c -> c < 128), "4: signs up to 127");
    face();
    words(bare(source));
    methods(source);
    extremes("");
    extremes("rot 1 9;sort a 1 9 9;thing t 9 1;want a t 0 1 9;");
    System.out.println(wrong == 0 ? "the language is kept to" : wrong + " rules are broken");
    if (wrong != 0) {
      System.exit(1);
    }
  }
}
