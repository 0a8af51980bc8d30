import java.io.IOException;
import java.nio.charset.StandardCharsets;
import java.nio.file.FileVisitOption;
import java.nio.file.FileVisitResult;
import java.nio.file.Files;
import java.nio.file.Path;
import java.nio.file.SimpleFileVisitor;
import java.nio.file.attribute.BasicFileAttributes;
import java.util.ArrayList;
import java.util.List;
import java.util.regex.Matcher;
import java.util.regex.Pattern;
import java.util.stream.Stream;

/**
 * What README.md shows and says: each call answers what stands behind it, and each command runs. The commands are run
 * in a small copy of the project, as this test is itself run by one of them; it is started in the project's folder.
 */
public final class ReadmeTest {
    private static final Due due = new Due("ReadmeTest");
    private static final Path PAGE = Path.of("README.md");
    private static final Path TESTS = Path.of("src/test/java");
    private static final Path SHARED = Path.of("../shared");
    private static final Pattern CALL = Pattern.compile(
        "(?:int (\\w+) = )?(registry\\.\\w+\\(.*\\)); *// (-?\\d+|true|false|\"[^\"]*\"|throws \\w+)(?:: .+)?");
    /** The test that a command names, and one more: the whole of them would take too long once more. */
    private static final List<String> COPIED = List.of("EdgeOfTitleTest.java", "WorksTest.java");

    /** What a command wrote, line by line, and its exit code. */
    private static final class Told {
        final List<String> lines;
        final int code;

        Told(List<String> lines, int code) {
            this.lines = lines;
            this.code = code;
        }

        String last() {
            return lines.isEmpty() ? "" : lines.get(lines.size() - 1);
        }
    }

    public static void main(String[] args) throws Exception {
        List<String> page = Files.readAllLines(PAGE, StandardCharsets.UTF_8);
        Path folder = Files.createTempDirectory("readme");
        try {
            calls(fenced(page, "java"), folder);
            names(page);
            Path copy = copyOfProject(folder);
            commands(fenced(page, "sh"), copy);
            failures(copy);
        } finally {
            delete(folder);
        }
        due.end();
    }

    /** The lines of that language, in their order. */
    private static List<String> fenced(List<String> page, String language) {
        List<String> lines = new ArrayList<>();
        boolean isIn = false;
        for (String line : page) {
            if (line.startsWith("```")) {
                isIn = !isIn && line.equals("```" + language);
            } else if (isIn && !line.isBlank()) {
                lines.add(line);
            }
        }
        due.is("it shows some " + language, lines.isEmpty(), false);
        return lines;
    }

    private static void calls(List<String> lines, Path folder) throws Exception {
        List<String> answers = new ArrayList<>();
        List<String> shown = new ArrayList<>();
        StringBuilder body = new StringBuilder();
        for (String line : lines) {
            Matcher m = CALL.matcher(line);
            if (m.matches()) {
                shown.add(m.group(2));
                answers.add(m.group(3));
                body.append(m.group(3).startsWith("throws ") ? refused(m) : answered(m));
            } else {
                due.is("a line without an answer: " + line,
                    line.startsWith("// ") || line.equals("Licenceweave registry = new Licenceweave();"), true);
                body.append(line).append('\n');
            }
        }
        Path source = folder.resolve("ReadmeRun.java");
        Files.writeString(source, "public class ReadmeRun {\n"
            + "static void tell(Object o) { System.out.println(o instanceof String ? \"\\\"\" + o + \"\\\"\" : o); }\n"
            + "public static void main(String[] args) {\n" + body + "}\n}\n");
        String out = folder.resolve("run").toString();
        Told compiled = run(Path.of("."), "javac", "-d", out, "src/main/java/Licenceweave.java", source.toString());
        due.is("what it shows compiles: " + compiled.lines, compiled.code, 0);
        Told told = run(Path.of("."), "java", "-cp", out, "ReadmeRun");
        due.is("what it shows ends: " + told.lines, told.code, 0);
        due.is("so many answers", told.lines.size(), answers.size());
        for (int k = 0; k < answers.size(); k++) {
            String got = k < told.lines.size() ? told.lines.get(k) : "nothing";
            due.is(shown.get(k), got, answers.get(k));
        }
    }

    private static String answered(Matcher m) {
        if (m.group(1) == null) {
            return "tell(" + m.group(2) + ");\n";
        }
        return "int " + m.group(1) + " = " + m.group(2) + ";\ntell(" + m.group(1) + ");\n";
    }

    private static String refused(Matcher m) {
        return "try { " + m.group(2) + "; tell(0); } catch (RuntimeException e) {"
            + " System.out.println(\"throws \" + e.getClass().getSimpleName()); }\n";
    }

    /** Each test that the page names is there, and the page names each one. */
    private static void names(List<String> page) throws IOException {
        String text = String.join("\n", page);
        Matcher m = Pattern.compile("`(\\w+)`").matcher(text);
        while (m.find()) {
            boolean isTest = m.group(1).endsWith("Test") || m.group(1).equals("Reference");
            due.is(m.group(1), !isTest || Files.exists(TESTS.resolve(m.group(1) + ".java")), true);
        }
        try (Stream<Path> files = Files.list(TESTS)) {
            for (Path file : files.toList()) {
                String name = file.getFileName().toString().replace(".java", "");
                boolean isNamed = text.contains("`" + name + "`") || name.startsWith("EdgeOf");
                due.is("it names " + name, !name.endsWith("Test") || isNamed, true);
            }
        }
    }

    /** The class, some tests and what they need, with ../shared beside it; the script is the project's own one. */
    private static Path copyOfProject(Path folder) throws IOException {
        Path copy = folder.resolve("main");
        copy(Path.of(".ci/run"), copy.resolve(".ci/run"));
        copy(Path.of("src/main/java/Licenceweave.java"), copy.resolve("src/main/java/Licenceweave.java"));
        try (Stream<Path> files = Files.list(TESTS)) {
            for (Path file : files.toList()) {
                String name = file.getFileName().toString();
                if (!name.endsWith("Test.java") || COPIED.contains(name)) {
                    copy(file, copy.resolve(TESTS).resolve(name));
                }
            }
        }
        for (Path file : sharedFiles()) {
            copy(SHARED.toRealPath().resolve(file), folder.resolve("shared").resolve(file));
        }
        return copy;
    }

    private static void copy(Path from, Path to) throws IOException {
        Files.createDirectories(to.getParent());
        Files.write(to, Files.readAllBytes(from));
    }

    /** What ../shared holds, as seen from there. */
    private static List<Path> sharedFiles() throws IOException {
        Path real = SHARED.toRealPath();
        try (Stream<Path> files = Files.walk(real, FileVisitOption.FOLLOW_LINKS)) {
            return files.filter(Files::isRegularFile).map(real::relativize).toList();
        }
    }

    private static long sharedTests() throws IOException {
        return sharedFiles().stream().filter(k -> k.startsWith("tests") && k.toString().endsWith(".java")).count();
    }

    private static void commands(List<String> lines, Path copy) throws Exception {
        boolean isWhole = false;
        for (String line : lines) {
            Told told = run(copy, "bash", "-c", line);
            due.is(line + " ends with: " + told.last(), told.code, 0);
            if (line.equals("bash .ci/run")) {
                due.is("the last line of " + line, told.last(), COPIED.size() + sharedTests() + " passed, 0 failed");
                isWhole = true;
            }
        }
        due.is("it names the command for all tests", isWhole, true);
    }

    /** A test that fails, on either side, and a class that does not compile. */
    private static void failures(Path copy) throws Exception {
        String wrong = "public final class WrongTest { public static void main(String[] a) { System.exit(1); } }\n";
        Path own = copy.resolve(TESTS).resolve("WrongTest.java");
        Path shared = copy.resolve(SHARED).resolve("tests/WrongTest.java").normalize();
        Files.writeString(own, wrong);
        Files.writeString(shared, wrong);
        Told told = run(copy, "bash", ".ci/run");
        due.is("the last line, if two fail", told.last(), COPIED.size() + sharedTests() + " passed, 2 failed");
        due.is("the exit code, if two fail", told.code, 1);
        Files.writeString(own, "public final class WrongTest {");
        due.is("the exit code, if one does not compile", run(copy, "bash", ".ci/run").code, 1);
    }

    private static Told run(Path folder, String... command) throws Exception {
        Process process = new ProcessBuilder(command).directory(folder.toFile()).redirectErrorStream(true).start();
        process.getOutputStream().close();
        String text = new String(process.getInputStream().readAllBytes(), StandardCharsets.UTF_8);
        return new Told(text.lines().toList(), process.waitFor());
    }

    private static void delete(Path folder) throws IOException {
        Files.walkFileTree(folder, new SimpleFileVisitor<>() {
            @Override
            public FileVisitResult visitFile(Path file, BasicFileAttributes attributes) throws IOException {
                Files.delete(file);
                return FileVisitResult.CONTINUE;
            }

            @Override
            public FileVisitResult postVisitDirectory(Path one, IOException e) throws IOException {
                Files.delete(one);
                return FileVisitResult.CONTINUE;
            }
        });
    }
}
