import java.io.IOException;
import java.lang.reflect.Method;
import java.lang.reflect.Modifier;
import java.nio.file.Files;
import java.nio.file.Path;
import java.util.ArrayList;
import java.util.List;
import java.util.regex.Matcher;
import java.util.regex.Pattern;

/**
 * README.md is so: its examples are made a program Yours.java, which is compiled
 * and run by the commands that README.md tells, and each answer told there must
 * be the one that is given.
 */
public final class ReadmeTest {
    private static final Pattern EXAMPLE = Pattern.compile("(?ms)^```java\n(.*?)^```$");
    private static final Pattern TOLD = Pattern.compile("((?:\\w+ (\\w+) = )?(\\S.*));\\s+// ([-\\w.]+): .*");
    private static final Path TESTS = Path.of("src/test/java");

    private static int wrong;

    public static void main(String[] args) throws Exception {
        String readme = Files.readString(Path.of("README.md"));
        Path place = Files.createTempDirectory("readme");
        int answers = runExamples(readme, place);
        allCalls(readme);
        allTests(readme);
        System.out.println(answers + " answers told by README.md, " + wrong + " wrong");
        System.exit(wrong == 0 ? 0 : 1);
    }

    private static void tell(String what) {
        wrong++;
        System.out.println(what);
    }

    private static int runExamples(String readme, Path place) throws Exception {
        List<String> program = new ArrayList<>();
        program.add("public final class Yours {");
        int answers = addExamples(readme, program);
        program.add("static int wrong;");
        program.add("static void due(String call, Object got, String want) {");
        program.add("  if (!String.valueOf(got).equals(want)) {");
        program.add("    wrong++; System.out.println(call + \" answered \" + got + \", README.md tells \" + want); } }");
        program.add("}");
        Path yours = place.resolve("Yours.java");
        Files.write(yours, program);
        String out = place.resolve("out").toString();
        boolean runs = runsAsTold(readme, "javac -d out src/main/java/StudioAirtime.java Yours.java", out, yours)
                && runsAsTold(readme, "java -cp out Yours", out, yours);
        if (answers == 0 || !runs) {
            tell("the examples of README.md do not run as it tells");
        }
        deleteAll(place);
        return answers;
    }

    private static boolean runsAsTold(String readme, String command, String out, Path yours) throws Exception {
        if (!readme.contains("\n    " + command + "\n")) {
            tell("README.md does not tell the command " + command);
        }
        List<String> words = new ArrayList<>();
        for (String word : command.split(" ")) {
            words.add(word.equals("out") ? out : word.equals("Yours.java") ? yours.toString() : word);
        }
        return new ProcessBuilder(words).inheritIO().start().waitFor() == 0;
    }

    /** Each example becomes a method; the main method calls them all. */
    private static int addExamples(String readme, List<String> program) {
        int answers = 0;
        StringBuilder main = new StringBuilder("public static void main(String[] args) {");
        Matcher examples = EXAMPLE.matcher(readme);
        for (int example = 0; examples.find(); example++) {
            main.append(" example").append(example).append("();");
            program.add("static void example" + example + "() {");
            for (String line : examples.group(1).split("\n")) {
                Matcher told = TOLD.matcher(line);
                if (told.matches()) {
                    answers++;
                    addTold(told, program);
                } else if (line.contains("//")) {
                    tell("no answer is told in README.md's line " + line);
                } else {
                    program.add(line);
                }
            }
            program.add("}");
        }
        program.add(main + " System.exit(wrong == 0 ? 0 : 1); }");
        return answers;
    }

    private static void addTold(Matcher told, List<String> program) {
        String call = told.group(3);
        String name = told.group(2);
        String want = told.group(4).equals("NONE") ? "-1" : told.group(4);
        String words = "\"" + call + "\"";
        if (name != null) {
            program.add(told.group(1) + "; due(" + words + ", " + name + ", \"" + want + "\");");
        } else if (want.endsWith("Exception")) {
            program.add("try { due(" + words + ", " + call + ", \"" + want + "\"); }");
            program.add("catch (RuntimeException e) { due(" + words + ", e.getClass().getSimpleName(), \"" + want + "\"); }");
        } else {
            program.add("due(" + words + ", " + call + ", \"" + want + "\");");
        }
    }

    private static void allCalls(String readme) {
        for (Method method : StudioAirtime.class.getDeclaredMethods()) {
            if (Modifier.isPublic(method.getModifiers()) && !readme.contains(method.getName() + "(")
                    && !readme.contains("`" + method.getName() + "`")) {
                tell("README.md does not show the call " + method.getName());
            }
        }
    }

    private static void allTests(String readme) throws IOException {
        String running = readme.substring(readme.indexOf("## Running the tests"));
        List<String> told = new ArrayList<>();
        Matcher names = Pattern.compile("`(\\w+Test)`").matcher(running);
        while (names.find()) {
            told.add(names.group(1));
            if (!Files.exists(TESTS.resolve(names.group(1) + ".java"))) {
                tell("README.md tells of a test that is not there: " + names.group(1));
            }
        }
        try (var files = Files.list(TESTS)) {
            files.map(file -> file.getFileName().toString().replace(".java", ""))
                    .filter(name -> name.endsWith("Test") && !told.contains(name))
                    .forEach(name -> tell("README.md does not tell of the test " + name));
        }
        if (!running.contains("\n    .ci/run\n") || !Files.isExecutable(Path.of(".ci/run"))) {
            tell("README.md does not tell how the tests are run, or .ci/run can't be run");
        }
    }

    private static void deleteAll(Path place) throws IOException {
        List<Path> all;
        try (var paths = Files.walk(place)) {
            all = new ArrayList<>(paths.toList());
        }
        for (int i = all.size() - 1; i >= 0; i--) {
            Files.delete(all.get(i));
        }
    }
}
