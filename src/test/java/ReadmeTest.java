import java.io.IOException;
import java.net.URL;
import java.net.URLClassLoader;
import java.nio.file.Files;
import java.nio.file.Path;
import java.util.ArrayList;
import java.util.List;
import java.util.TreeSet;
import java.util.function.Supplier;
import java.util.regex.Matcher;
import java.util.regex.Pattern;
import java.util.stream.Stream;
import javax.tools.ToolProvider;

/** README.md: what it says of the class holds, it leaves no call and no refusal out, and it names every test. */
public final class ReadmeTest {
    private static final Pattern EXAMPLE = Pattern.compile("(?s)```java\n(.*?)```");
    private static final Pattern STATEMENT = Pattern.compile(
        "(?:int (\\w+) = )?(machine\\.(\\w+)\\(.*\\)); *// ([^:]+)(?:: .*)?");
    private static final Pattern ROW = Pattern.compile("(?m)^\\| `((\\w+)\\([^`]*\\))` \\| .* \\| (.*) \\|$");
    private static final Pattern REFUSAL = Pattern.compile("(?:^|<br>)`?(-\\d|NONE|false)`?: ");
    private static final Pattern FACE = Pattern.compile("(?m)^    public (?:long|int|boolean) (\\w+)\\((.*)\\);$");
    private static final Due due = new Due();

    public static void main(String[] args) throws Exception {
        String readme = Files.readString(Path.of("README.md"));
        String document = Files.readString(Path.of("../shared/DOC.md"));
        TreeSet<String> shown = new TreeSet<>();
        Matcher example = EXAMPLE.matcher(readme);
        int number = 0;
        due.sentence("README.md: what each call does and answers");
        while (example.find()) {
            oneExample("Example" + number++, example.group(1), shown);
        }
        due.holds("there are examples", number > 0);
        everyCallIsThere(readme, document, shown);
        everyRefusalIsShown(readme, shown);
        everyTestIsNamed(readme);
        due.finish();
    }

    /** Runs an example and adds to shown each of its calls with its answer. */
    private static void oneExample(String name, String example, TreeSet<String> shown) throws Exception {
        StringBuilder body = new StringBuilder();
        List<String> calls = new ArrayList<>();
        List<String> want = new ArrayList<>();
        for (String line : example.split("\n")) {
            Matcher statement = STATEMENT.matcher(line);
            if (line.startsWith("EnclaveGuards machine = ")) {
                body.append(line).append('\n');
            } else if (statement.matches()) {
                String kept = statement.group(1) == null ? "" : "int " + statement.group(1) + " = ";
                String value = kept.isEmpty() ? statement.group(2) : statement.group(1);
                body.append(kept.isEmpty() ? "" : kept + statement.group(2) + ";\n");
                body.append("said.add(String.valueOf(").append(value).append("));\n");
                calls.add(statement.group(2));
                want.add(statement.group(4));
                shown.add(statement.group(3) + " " + statement.group(4));
            } else {
                due.holds("the line tells what is answered: " + line, false);
            }
        }
        List<String> said = answersOf(name, body.toString());
        for (int k = 0; k < calls.size(); k++) {
            due.holds(calls.get(k) + ", which says " + said.get(k) + ", is told to say " + want.get(k),
                said.get(k).equals(numberOf(want.get(k))));
        }
    }

    private static String numberOf(String answer) {
        return answer.replace("NONE", "" + EnclaveGuards.NONE).replace("FAULT", "" + EnclaveGuards.FAULT);
    }

    private static List<String> answersOf(String name, String body) throws Exception {
        Path folder = Files.createTempDirectory("readme");
        Path source = folder.resolve(name + ".java");
        Path classFile = folder.resolve(name + ".class");
        try {
            Files.writeString(source, "import java.util.*;\n"
                + "public class " + name + " implements java.util.function.Supplier<List<String>> {\n"
                + "public List<String> get() {\nList<String> said = new ArrayList<>();\n"
                + body + "return said;\n}\n}\n");
            String classes = System.getProperty("java.class.path");
            int rc = ToolProvider.getSystemJavaCompiler().run(null, null, null, "-cp", classes, "-d", folder.toString(),
                source.toString());
            due.is("javac of " + name, rc, 0);
            try (URLClassLoader loader = new URLClassLoader(new URL[] {folder.toUri().toURL()})) {
                return run(loader.loadClass(name).getDeclaredConstructor().newInstance());
            }
        } finally {
            Files.deleteIfExists(source);
            Files.deleteIfExists(classFile);
            Files.deleteIfExists(folder);
        }
    }

    private static List<String> run(Object example) {
        List<String> said = new ArrayList<>();
        for (Object one : (List<?>) ((Supplier<?>) example).get()) {
            said.add((String) one);
        }
        return said;
    }

    private static void everyCallIsThere(String readme, String document, TreeSet<String> shown) {
        due.sentence("README.md: how to use the class");
        TreeSet<String> rows = new TreeSet<>();
        Matcher row = ROW.matcher(readme);
        while (row.find()) {
            rows.add(row.group(1));
        }
        Matcher face = FACE.matcher(document);
        int calls = 0;
        while (face.find()) {
            calls++;
            String name = face.group(1);
            String call = name + "(" + face.group(2).replace("int ", "") + ")";
            due.holds(call + " is in the table", rows.contains(call));
            due.holds(name + " is in an example", shown.stream().anyMatch(one -> one.startsWith(name + " ")));
        }
        due.is("the calls of the face", calls, 17);
        due.is("the rows of the table", rows.size(), calls);
    }

    private static void everyRefusalIsShown(String readme, TreeSet<String> shown) {
        due.sentence("README.md: its refusals");
        Matcher row = ROW.matcher(readme);
        while (row.find()) {
            Matcher refusal = REFUSAL.matcher(row.group(3));
            int told = 0;
            while (refusal.find()) {
                told++;
                String one = row.group(2) + " " + refusal.group(1);
                due.holds("an example shows " + one, shown.contains(one));
            }
            boolean never = row.group(3).startsWith("none");
            due.is("refusals are told for " + row.group(2), told > 0, !never);
        }
    }

    private static void everyTestIsNamed(String readme) throws IOException {
        due.sentence("README.md: how to run its tests");
        TreeSet<String> there = new TreeSet<>();
        try (Stream<Path> files = Files.list(Path.of("src/test/java"))) {
            files.map(file -> file.getFileName().toString().replace(".java", "")).forEach(there::add);
        }
        for (String name : there) {
            due.holds(name + " is named", readme.contains("`" + name + "`"));
        }
        Matcher named = Pattern.compile("`(\\w+Test)`").matcher(readme);
        while (named.find()) {
            due.holds(named.group(1) + " is there", there.contains(named.group(1)));
        }
        due.holds(".ci/run can be run", Files.isExecutable(Path.of(".ci/run")));
    }
}
