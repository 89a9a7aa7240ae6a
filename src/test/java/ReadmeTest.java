import java.io.ByteArrayOutputStream;
import java.io.IOException;
import java.io.PrintStream;
import java.io.UncheckedIOException;
import java.lang.reflect.Method;
import java.lang.reflect.Modifier;
import java.net.URL;
import java.net.URLClassLoader;
import java.nio.charset.StandardCharsets;
import java.nio.file.Files;
import java.nio.file.Path;
import java.util.ArrayList;
import java.util.Collections;
import java.util.List;
import java.util.regex.Matcher;
import java.util.regex.Pattern;
import java.util.stream.Stream;

/** What README.md says holds: its program, the calls and the parts of courses that it names, the tests. */
public final class ReadmeTest extends Checks {
    private static String page = "";

    private static List<String> found(String pattern, String text) {
        List<String> all = new ArrayList<>();
        Matcher matcher = Pattern.compile(pattern, Pattern.MULTILINE).matcher(text);
        while (matcher.find()) {
            all.add(matcher.group(1));
        }
        return all;
    }

    private static String between(String from, String to) {
        int start = page.indexOf(from);
        int end = start < 0 ? -1 : page.indexOf(to, start + from.length());
        return end < 0 ? "" : page.substring(start + from.length(), end);
    }

    // ---- the program

    private static String program() {
        return between("```java\n", "```\n");
    }

    /** A comment tells what its line prints, up to a colon. */
    private static List<String> outputDue() {
        return found("println\\(.*\\); *// ([^:\\n]+)", program());
    }

    private static void compile(Path room) throws IOException, InterruptedException {
        Path source = room.resolve("Example.java");
        Files.writeString(source, program(), StandardCharsets.UTF_8);
        due(new ProcessBuilder("javac", "-encoding", "UTF-8", "-cp", System.getProperty("java.class.path"),
                "-d", room.toString(), source.toString()).inheritIO().start().waitFor(), 0);
    }

    private static List<String> outputOfProgram(Path room) throws IOException, ReflectiveOperationException {
        PrintStream out = System.out;
        ByteArrayOutputStream told = new ByteArrayOutputStream();
        try (URLClassLoader loader = new URLClassLoader(new URL[] {room.toUri().toURL()})) {
            Method main = loader.loadClass("Example").getMethod("main", String[].class);
            System.setOut(new PrintStream(told, true, StandardCharsets.UTF_8));
            main.invoke(null, (Object) new String[0]);
        } finally {
            System.setOut(out);
        }
        return told.toString(StandardCharsets.UTF_8).lines().toList();
    }

    private static void remove(Path room) throws IOException {
        try (Stream<Path> files = Files.list(room)) {
            for (Path file : files.toList()) {
                Files.delete(file);
            }
        }
        Files.delete(room);
    }

    private static void theProgramPrintsWhatIsTold() {
        try {
            Path room = Files.createTempDirectory("readme");
            try {
                compile(room);
                due(outputOfProgram(room), outputDue());
            } finally {
                remove(room);
            }
        } catch (IOException e) {
            throw new UncheckedIOException(e);
        } catch (ReflectiveOperationException | InterruptedException e) {
            throw new IllegalStateException(e);
        }
    }

    /** So that no line stands there without being looked at. */
    private static void eachLineTellsWhatItPrints() {
        due(outputDue().size(), found("(println\\()", program()).size());
        due(outputDue().size() > 0, true);
    }

    // ---- the calls

    private static int parameters(String call) {
        String inside = call.substring(call.indexOf('(') + 1, call.length() - 1);
        return inside.isEmpty() ? 0 : inside.split(", ").length;
    }

    private static void allCallsAreNamed() {
        List<String> named = new ArrayList<>();
        for (String call : found("`(\\w+\\([\\w, ]*\\))`", between("### The calls\n", "\n- "))) {
            named.add(call.substring(0, call.indexOf('(')) + " " + parameters(call));
        }
        List<String> face = new ArrayList<>();
        for (Method method : VoteLogs.class.getDeclaredMethods()) {
            if (Modifier.isPublic(method.getModifiers())) {
                face.add(method.getName() + " " + method.getParameterCount());
            }
        }
        Collections.sort(named);
        Collections.sort(face);
        due(named, face);
    }

    private static void allPartsOfCoursesAreNamed() {
        List<String> parts = found("`([a-z][^`]+)`", between("- A course is parts", "\n- "));
        StringBuilder letters = new StringBuilder();
        for (String part : parts) {
            VoteLogs x = new VoteLogs();
            type(x, part);
            due(x.firstError(), part.length());
            due(x.runCourse() <= 1, true);
            letters.append(part.charAt(0));
        }
        due(letters.toString(), "bdlcrgq");
    }

    // ---- the tests

    private static void allTestsAreNamed() {
        List<String> named = new ArrayList<>();
        for (String line : found("^- (`\\w+Test`.*)$", between("## How to run its tests\n", "No object in these tests"))) {
            named.addAll(found("`(\\w+Test)`", line));
        }
        List<String> there = new ArrayList<>();
        try (Stream<Path> files = Files.list(Path.of("src/test/java"))) {
            files.forEach(file -> there.add(file.getFileName().toString().replace(".java", "")));
        } catch (IOException e) {
            throw new UncheckedIOException(e);
        }
        Collections.sort(named);
        Collections.sort(there);
        due(named, there);
    }

    /** The files that commands name are there, and the script can be run. */
    private static void commandsNameWhatIsThere() {
        List<String> commands = found("^ {4}(\\S.*)$", between("## How to run its tests\n", "No object in these tests"));
        due(commands.isEmpty(), false);
        due(commands.isEmpty() ? "" : commands.get(0), ".ci/run");
        due(Files.isExecutable(Path.of(".ci/run")), true);
        for (String command : commands) {
            for (String file : found("((?:src|\\.ci)/\\S+)", command)) {
                due(Files.exists(Path.of(file)) ? file : "nothing", file);
            }
        }
    }

    public static void main(String[] args) throws IOException {
        page = Files.readString(Path.of("README.md"), StandardCharsets.UTF_8);
        test("the program prints what is told behind its lines", ReadmeTest::theProgramPrintsWhatIsTold);
        test("each line of the program tells what it prints", ReadmeTest::eachLineTellsWhatItPrints);
        test("all calls of the face are named, and no other", ReadmeTest::allCallsAreNamed);
        test("all parts of courses are named, and are parts", ReadmeTest::allPartsOfCoursesAreNamed);
        test("all tests are named, and no other", ReadmeTest::allTestsAreNamed);
        test("the commands name what is there", ReadmeTest::commandsNameWhatIsThere);
        end();
    }
}
