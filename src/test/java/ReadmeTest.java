import java.io.File;
import java.io.IOException;
import java.lang.reflect.Method;
import java.lang.reflect.Modifier;
import java.net.URL;
import java.net.URLClassLoader;
import java.nio.file.Files;
import java.nio.file.Path;
import java.util.ArrayList;
import java.util.List;
import java.util.regex.Matcher;
import java.util.regex.Pattern;
import java.util.stream.Stream;
import javax.tools.JavaCompiler;
import javax.tools.ToolProvider;

/** README.md is true: its programs answer what stands behind each call, and it names every call and every test. */
public final class ReadmeTest {
  private static final Pattern BLOCK = Pattern.compile("```java\\n(.*?)```", Pattern.DOTALL);
  private static final Pattern ANSWER = Pattern.compile("(?m)^(x\\..*\\));\\s*// (-?\\d+)(?!\\d).*$");

  public static void main(String[] args) throws Exception {
    String page = Files.readString(Path.of("README.md"));
    runPrograms(page);
    namesEveryCall(page);
    namesEveryTest(page);
    Due.end("ReadmeTest");
  }

  private static void runPrograms(String page) throws Exception {
    StringBuilder lines = new StringBuilder();
    Matcher block = BLOCK.matcher(page);
    while (block.find()) {
      lines.append(block.group(1));
    }
    Matcher answer = ANSWER.matcher(lines);
    long answers = answer.results().count();
    Due.isTrue("the programs of README.md tell answers, and not " + answers, answers >= 30);
    StringBuilder calls = new StringBuilder();
    String program = answer.reset().replaceAll(m -> {
      calls.append(m.group(1)).append('\n');
      return Matcher.quoteReplacement("all.add(new long[] {" + m.group(1) + ", " + m.group(2) + "L});");
    });
    List<long[]> all = new ArrayList<>();
    run("public final class ReadmeProgram { public static void run(java.util.List<long[]> all) {\n" + program + "}}\n",
        all);
    Due.is("how many answers the programs of README.md give", all.size(), answers);
    String[] call = calls.toString().split("\n");
    for (int i = 0; i < Math.min(call.length, all.size()); i++) {
      Due.is("README.md: " + call[i], all.get(i)[0], all.get(i)[1]);
    }
  }

  private static void run(String source, List<long[]> all) throws Exception {
    Path folder = Files.createTempDirectory("readme");
    Path file = folder.resolve("ReadmeProgram.java");
    Path compiled = folder.resolve("ReadmeProgram.class");
    try {
      Files.writeString(file, source);
      JavaCompiler compiler = ToolProvider.getSystemJavaCompiler();
      int exit = compiler.run(null, null, null, "-cp", System.getProperty("java.class.path"), "-d", folder.toString(),
          file.toString());
      Due.is("compiling the programs of README.md", exit, 0);
      if (exit == 0) {
        try (URLClassLoader loader = new URLClassLoader(new URL[] {folder.toUri().toURL()})) {
          loader.loadClass("ReadmeProgram").getMethod("run", List.class).invoke(null, all);
        }
      }
    } finally {
      for (Path made : List.of(file, compiled, folder)) {
        Files.deleteIfExists(made);
      }
    }
  }

  private static void namesEveryCall(String page) {
    for (Method method : RotationOfFarmers.class.getDeclaredMethods()) {
      if (Modifier.isPublic(method.getModifiers())) {
        boolean named = Pattern.compile("(`|x\\.)" + method.getName() + "(`|\\()").matcher(page).find();
        Due.isTrue("README.md names " + method.getName(), named);
      }
    }
  }

  private static void namesEveryTest(String page) throws IOException {
    try (Stream<Path> files = Files.list(Path.of("src", "test", "java"))) {
      for (Path file : files.toList()) {
        String name = file.getFileName().toString().replace(".java", "");
        Due.isTrue("README.md names " + name, !name.endsWith("Test") || page.contains("`" + name + "`"));
      }
    }
    Due.isTrue("README.md names the command", page.contains("    .ci/run\n"));
    Due.isTrue(".ci/run can be executed", new File(".ci/run").canExecute());
  }
}
