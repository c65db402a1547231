import java.io.IOException;
import java.lang.reflect.Method;
import java.lang.reflect.Modifier;
import java.nio.file.Files;
import java.nio.file.Path;
import java.util.ArrayList;
import java.util.List;
import java.util.regex.Matcher;
import java.util.regex.Pattern;
import java.util.stream.Stream;

/** What README.md says of use and of running the tests holds as it is written. Run in the project's folder. */
public final class ReadmeTest {
    private static final Path README = Path.of("README.md");
    private static final Path SOURCES = Path.of("src");
    private static final Path TESTS = Path.of("src", "test", "java");

    private final String text;
    /** The commands are run in a copy, so that they leave nothing in the project. */
    private final Path copy;

    private ReadmeTest(Path copy) throws IOException {
        text = Files.readString(README);
        this.copy = copy;
    }

    public static void main(String[] args) throws Exception {
        Path copy = Files.createTempDirectory("readme");
        try {
            copyTree(SOURCES, copy.resolve("src"));
            ReadmeTest test = new ReadmeTest(copy);
            test.examplePrintsWhatIsShown();
            test.oneTestAlone();
            test.everyCallIsListed();
            test.everyTestIsListed();
            test.everyPathIsThere();
        } finally {
            deleteTree(copy);
        }
        Due.end();
    }

    private void examplePrintsWhatIsShown() throws Exception {
        Files.writeString(copy.resolve("Example.java"), blocks("java").get(0));
        same("the example", printed(blocks("sh").get(0)), blocks("text").get(0));
    }

    private void oneTestAlone() throws Exception {
        same("one test alone", printed(blocks("sh").get(1)), "");
    }

    private void everyCallIsListed() {
        Due.is("the constructor is listed", text.contains("| `new DataGuards(profile)` |"), true);
        for (Method method : DataGuards.class.getDeclaredMethods()) {
            if (Modifier.isPublic(method.getModifiers())) {
                String row = "\\| `" + method.getName() + "\\([^)]*\\)` \\|";
                Due.is(method.getName() + " is listed", Pattern.compile(row).matcher(text).find(), true);
            }
        }
    }

    /** Each name of the list has a file, and each file a name in the list, * standing for any letters. */
    private void everyTestIsListed() throws IOException {
        List<String> listed = listedTests();
        List<String> files = testFiles();
        for (String file : files) {
            Due.is(file + " is listed", listed.stream().anyMatch(name -> fits(name, file)), true);
        }
        for (String name : listed) {
            Due.is(name + " has a file", files.stream().anyMatch(file -> fits(name, file)), true);
        }
    }

    private void everyPathIsThere() {
        for (String path : List.of("src/main/java/DataGuards.java", "../shared/DOC.md", ".ci/run")) {
            Due.is(path + " is named", text.contains(path), true);
            Due.is(path + " is there", Files.exists(Path.of(path)), true);
        }
        Due.is(".ci/run can be run", Files.isExecutable(Path.of(".ci/run")), true);
    }

    private List<String> listedTests() {
        List<String> names = new ArrayList<>();
        String list = text.substring(text.indexOf("- `Promise*Test`"));
        Matcher matcher = Pattern.compile("`([A-Za-z*]+)`").matcher(list);
        while (matcher.find()) {
            names.add(matcher.group(1));
        }
        return names;
    }

    private static List<String> testFiles() throws IOException {
        try (Stream<Path> files = Files.list(TESTS)) {
            return files.map(file -> file.getFileName().toString().replace(".java", "")).toList();
        }
    }

    private static boolean fits(String name, String file) {
        return file.matches(name.replace("*", "\\w*"));
    }

    /** The blocks of the text that are marked with a language, in their order. */
    private List<String> blocks(String language) {
        List<String> blocks = new ArrayList<>();
        Pattern fenced = Pattern.compile("^```" + language + "\n(.*?)^```$", Pattern.DOTALL | Pattern.MULTILINE);
        Matcher matcher = fenced.matcher(text);
        while (matcher.find()) {
            blocks.add(matcher.group(1));
        }
        return blocks;
    }

    /** What commands print in the copy; what they say of errors is shown, and not compared. */
    private String printed(String commands) throws IOException, InterruptedException {
        Path output = copy.resolve("printed");
        Process process = new ProcessBuilder("sh", "-e", "-c", commands)
            .directory(copy.toFile())
            .redirectError(ProcessBuilder.Redirect.INHERIT)
            .redirectOutput(output.toFile())
            .start();
        process.getOutputStream().close();
        Due.is("exit code of " + commands.strip(), process.waitFor(), 0);
        return Files.readString(output);
    }

    private static void same(String what, String got, String want) {
        Due.is(what + " prints what README.md shows, but for <" + got + ">", got.equals(want), true);
    }

    private static void copyTree(Path from, Path to) throws IOException {
        try (Stream<Path> paths = Files.walk(from)) {
            for (Path path : paths.toList()) {
                Path target = to.resolve(from.relativize(path));
                Files.createDirectories(target.getParent());
                Files.copy(path, target);
            }
        }
    }

    private static void deleteTree(Path root) throws IOException {
        try (Stream<Path> paths = Files.walk(root)) {
            for (Path path : paths.sorted((a, b) -> b.compareTo(a)).toList()) {
                Files.delete(path);
            }
        }
    }
}
