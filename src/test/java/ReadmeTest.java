import java.io.IOException;
import java.lang.reflect.Method;
import java.lang.reflect.Modifier;
import java.net.URL;
import java.net.URLClassLoader;
import java.nio.file.Files;
import java.nio.file.Path;
import java.util.ArrayList;
import java.util.Comparator;
import java.util.List;
import java.util.regex.Matcher;
import java.util.regex.Pattern;
import java.util.stream.Stream;
import javax.tools.ToolProvider;

/**
 * What README.md shows of the class's use runs and answers as it says there. It is run with RotMoney
 * and with Plain, so that a wrong answer that was only copied from the class is found too.
 */
public final class ReadmeTest {
  private static final Path README = Path.of("README.md");
  private static final Path TESTS = Path.of("src/test/java");
  private static final Pattern CALL = Pattern.compile("x\\.(\\w+)\\(");
  private static final Pattern SHOWN = Pattern.compile("(x\\.\\w+\\([^;\"]*\\)); *// (-?\\d+)(?!\\w).*");
  private static int wrong = 0;

  private static void must(boolean fine, String what) {
    if (!fine) {
      wrong++;
      System.out.println("README.md: " + what);
    }
  }

  private static List<String> blocks(String readme) {
    List<String> found = new ArrayList<>();
    Matcher block = Pattern.compile("(?ms)^```java\n(.*?)^```$").matcher(readme);
    while (block.find()) {
      found.add(block.group(1));
    }
    return found;
  }

  private static boolean isHelper(String block) {
    return block.startsWith("static ");
  }

  /** The rows of a block, each call with a look at what it answers. */
  private static String held(String block) {
    StringBuilder rows = new StringBuilder();
    for (String row : block.split("\n")) {
      Matcher shown = SHOWN.matcher(row);
      if (shown.matches()) {
        String call = shown.group(1);
        rows.append("due(\"").append(call).append("\", ").append(call).append(", ")
            .append(shown.group(2)).append(");\n");
      } else {
        must(!CALL.matcher(row).find(), "the row tells no answer: " + row);
        rows.append(row).append('\n');
      }
    }
    return rows.toString();
  }

  private static String source(List<String> blocks) {
    StringBuilder members = new StringBuilder();
    StringBuilder rows = new StringBuilder();
    for (String block : blocks) {
      if (isHelper(block)) {
        members.append(block);
      } else {
        rows.append(held(block));
      }
    }
    return "public final class Shown {\nprivate static int wrong = 0;\n"
        + "private static void due(String call, int got, int due) {\nif (got != due) {\nwrong++;\n"
        + "System.out.println(\"README.md: \" + call + \" answered \" + got + \", shown is \" + due);\n"
        + "}\n}\n" + members + "public static int run() {\n" + rows + "return wrong;\n}\n}\n";
  }

  /** Compiles and runs it: how many answers are not as shown. */
  private static int run(String source) throws IOException, ReflectiveOperationException {
    Path folder = Files.createTempDirectory("shown");
    try {
      Path file = folder.resolve("Shown.java");
      Files.writeString(file, source);
      String known = System.getProperty("java.class.path");
      int told = ToolProvider.getSystemJavaCompiler().run(null, null, null,
          "-d", folder.toString(), "-cp", known, file.toString());
      if (told != 0) {
        return 1;
      }
      URL[] places = {folder.toUri().toURL(), Path.of(known).toUri().toURL()};
      // One loader for all of them: a class that is not public is seen only by those loaded with it.
      try (URLClassLoader loader = new URLClassLoader(places, ClassLoader.getPlatformClassLoader())) {
        return (Integer) loader.loadClass("Shown").getMethod("run").invoke(null);
      }
    } finally {
      remove(folder);
    }
  }

  private static void remove(Path folder) throws IOException {
    try (Stream<Path> all = Files.walk(folder)) {
      for (Path path : all.sorted(Comparator.reverseOrder()).toList()) {
        Files.delete(path);
      }
    }
  }

  private static void everyCallIsShown(List<String> blocks) {
    StringBuilder rows = new StringBuilder();
    for (String block : blocks) {
      rows.append(isHelper(block) ? "" : block);
    }
    for (Method m : RotMoney.class.getDeclaredMethods()) {
      if (Modifier.isPublic(m.getModifiers())) {
        must(rows.indexOf("x." + m.getName() + "(") >= 0, "no use of " + m.getName() + "() is shown");
      }
    }
  }

  private static void everyTestIsNamed(String readme) throws IOException {
    try (Stream<Path> all = Files.list(TESTS)) {
      for (Path path : all.toList()) {
        String name = path.getFileName().toString();
        must(!name.endsWith("Test.java") || readme.contains("`" + name + "`")
            || readme.contains("/" + name + "`"), "the test " + name + " is not named");
      }
    }
    must(readme.contains("\n    .ci/run\n"), "it does not say how to run the tests");
  }

  private static void constantsAreTold(String readme) {
    must(readme.contains("`NONE` | " + RotMoney.NONE + " "), "NONE");
    must(readme.contains("`RANGE` | " + RotMoney.RANGE + " "), "RANGE");
    must(readme.contains("`FULL` | " + RotMoney.FULL + " "), "FULL");
    must(readme.contains("`STATE` | " + RotMoney.STATE + " "), "STATE");
  }

  public static void main(String[] args) throws IOException, ReflectiveOperationException {
    String readme = Files.readString(README);
    List<String> blocks = blocks(readme);
    String source = source(blocks);
    must(run(source) == 0, "what is shown of RotMoney does not hold");
    must(run(source.replace("RotMoney", "Plain")) == 0, "what is shown is not what Plain says");
    everyCallIsShown(blocks);
    everyTestIsNamed(readme);
    constantsAreTold(readme);
    System.out.println(wrong == 0 ? "what README.md shows holds" : wrong + " rows of README.md don't hold");
    if (wrong != 0) {
      System.exit(1);
    }
  }
}
