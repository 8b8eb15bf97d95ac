import java.io.PrintWriter;
import java.io.StringWriter;
import java.util.ArrayList;
import java.util.HashMap;
import java.util.HashSet;
import java.util.List;
import java.util.Map;
import java.util.Set;
import java.util.TreeMap;
import java.util.regex.Matcher;
import java.util.regex.Pattern;
import java.util.spi.ToolProvider;

/** Those rules of LANGUAGE.md that the compiled class shows: how deep calls go, what they make and use. */
public final class CompiledTest {
  private static final int MOST_DEEP = 8;
  private static final Set<String> LIBRARY = Set.of("java/lang/Object.<init>", "java/lang/Math.min",
      "java/lang/Math.max", "java/lang/Math.floorMod", "java/lang/System.arraycopy",
      "java/util/Arrays.fill", "java/lang/String.length", "java/lang/String.charAt");
  private static final Set<String> BANNED = Set.of("athrow", "monitorenter", "invokedynamic",
      "invokeinterface", "checkcast", "instanceof");
  private static final Set<String> MAKERS = Set.of("new", "newarray", "anewarray", "multianewarray");
  private static final Pattern HEAD = Pattern.compile("  .*?([\\w$]+)\\(.*\\);");
  private static final Pattern STEP = Pattern.compile(" +\\d+: (\\w+).*");
  private static final Pattern CALLED = Pattern.compile("// Method (?:([\\w$/]+)\\.)?\"?([\\w<>$]+)\"?:(\\S+)");

  private static int wrong = 0;

  // By method: those that it calls.
  private final Map<String, List<String>> calls = new TreeMap<>();
  private final List<String> asked = new ArrayList<>();
  private final Map<String, Integer> depths = new HashMap<>();
  private final Set<String> open = new HashSet<>();
  private String method = "";

  private static void must(boolean fine, String rule) {
    if (!fine) {
      wrong++;
      System.out.println("broken: " + rule);
    }
  }

  private static String listing(String name) {
    StringWriter text = new StringWriter();
    int told = ToolProvider.findFirst("javap").orElseThrow().run(new PrintWriter(text),
        new PrintWriter(System.out, true), "-c", "-p", "-s", "-cp",
        System.getProperty("java.class.path"), name);
    must(told == 0, "javap lists " + name);
    return text.toString();
  }

  private void read(String type) {
    String head = "";
    for (String row : listing(type).split("\n")) {
      Matcher step = STEP.matcher(row);
      if (HEAD.matcher(row).matches()) {
        head = row;
      } else if (row.startsWith("    descriptor: (")) {
        begin(type, head, row.substring(row.indexOf('(')));
      } else if (step.matches()) {
        look(type, step.group(1), row);
      } else {
        must(!row.contains("Exception table"), "6: " + method + " catches");
      }
    }
  }

  private void begin(String type, String head, String descriptor) {
    Matcher name = HEAD.matcher(head);
    must(name.matches(), "the name is found in " + head);
    boolean making = name.group(1).equals(type);
    method = type + "." + (making ? "<init>" : name.group(1)) + descriptor;
    calls.put(method, new ArrayList<>());
    if (type.equals("RotMoney") && head.startsWith("  public ") && !making) {
      asked.add(method);
    }
  }

  private void look(String type, String step, String row) {
    must(!BANNED.contains(step), "2, 6: " + method + " has " + step);
    must(!MAKERS.contains(step) || method.contains("<init>"), "12: " + method + " makes objects");
    Matcher called = CALLED.matcher(row);
    if (!step.startsWith("invoke") || !called.find()) {
      return;
    }
    String owner = called.group(1) == null ? type : called.group(1);
    String name = owner + "." + called.group(2);
    must(owner.startsWith("RotMoney") || LIBRARY.contains(name), "4: " + method + " calls " + name);
    calls.get(method).add(name + called.group(3));
  }

  /** How many calls stand open at most, this one too; what the library calls in turn is its own. */
  private int depth(String name) {
    if (depths.containsKey(name) || !calls.containsKey(name)) {
      must(calls.containsKey(name) || !name.startsWith("RotMoney"), "the method is found: " + name);
      return depths.getOrDefault(name, 1);
    }
    if (!open.add(name)) {
      must(false, "8: " + name + " calls itself");
      return 1;
    }
    int below = 0;
    for (String next : calls.get(name)) {
      below = Math.max(below, depth(next));
    }
    open.remove(name);
    depths.put(name, below + 1);
    return below + 1;
  }

  public static void main(String[] args) {
    CompiledTest test = new CompiledTest();
    test.read("RotMoney");
    for (Class<?> inside : RotMoney.class.getDeclaredClasses()) {
      test.read(inside.getName());
    }
    int deepest = 0;
    for (String name : test.calls.keySet()) {
      int depth = test.depth(name);
      deepest = Math.max(deepest, depth);
      must(depth <= MOST_DEEP, "11: " + name + " goes " + depth + " deep");
    }
    must(test.asked.size() == 33, "the face has 33 calls, found are " + test.asked.size());
    must(deepest > 4, "calls are followed: " + deepest);
    System.out.println(wrong == 0 ? "the compiled class keeps to the language, " + deepest + " calls deep"
        : wrong + " rules are broken");
    if (wrong != 0) {
      System.exit(1);
    }
  }
}
