import java.io.File;
import java.io.IOException;
import java.lang.reflect.Method;
import java.lang.reflect.Modifier;
import java.nio.file.Files;
import java.nio.file.Path;
import java.util.ArrayList;
import java.util.List;
import java.util.Set;
import java.util.TreeSet;
import java.util.regex.Matcher;
import java.util.regex.Pattern;

/** README.md holds: its program prints what the page says, and it names every call and every test that there is. */
public final class TossGroundReadmeTest {
    static int wrong = 0;
    static int asked = 0;

    static void must(boolean holds, String what) {
        asked++;
        if (!holds) {
            wrong++;
            System.out.println("not so: " + what);
        }
    }

    static List<String> blocks(String page, String language) {
        List<String> found = new ArrayList<>();
        Matcher m = Pattern.compile("(?ms)^```" + language + "\\n(.*?)^```$").matcher(page);
        while (m.find()) found.add(m.group(1));
        return found;
    }

    static Set<String> namedIn(String text, String pattern) {
        Set<String> found = new TreeSet<>();
        Matcher m = Pattern.compile(pattern).matcher(text);
        while (m.find()) found.add(m.group(1));
        return found;
    }

    /** Compiled against the class that is tested, and run beside it, by the javac and java that .ci/run takes. */
    static String printedBy(String program) throws Exception {
        Path dir = Files.createTempDirectory("toss");
        Path source = Files.writeString(dir.resolve("Usage.java"), program);
        String path = new File(TossGround.class.getProtectionDomain().getCodeSource().getLocation().toURI()).getPath();
        outputOf("javac", "-cp", path, "-d", dir.toString(), source.toString());
        String printed = outputOf("java", "-cp", path + File.pathSeparator + dir, "Usage");
        for (File f : dir.toFile().listFiles()) Files.delete(f.toPath());
        Files.delete(dir);
        return printed;
    }

    /** What it says of errors is left out: a machine may put words of its own there. */
    static String outputOf(String... command) throws Exception {
        Process process = new ProcessBuilder(command).redirectError(ProcessBuilder.Redirect.INHERIT).start();
        String out = new String(process.getInputStream().readAllBytes());
        must(process.waitFor() == 0, command[0] + " takes the program of README.md");
        return out.replace(System.lineSeparator(), "\n");
    }

    static void callsAreNamed(String page) {
        String table = page.substring(page.indexOf("| what for"), page.indexOf("Whatever the arguments"));
        Set<String> named = namedIn(table, "`(\\w+)`");
        Set<String> face = new TreeSet<>();
        for (Method m : TossGround.class.getDeclaredMethods()) {
            if (Modifier.isPublic(m.getModifiers())) face.add(m.getName());
        }
        must(named.equals(face), "the table names the calls of the face: " + named);
    }

    static void testsAreNamed(String page) throws IOException {
        Set<String> there = new TreeSet<>();
        for (File f : new File("src/test/java").listFiles()) {
            if (f.getName().endsWith(".java")) there.add(f.getName().replace(".java", ""));
        }
        Set<String> named = namedIn(page.substring(page.indexOf("## How to run its tests")), "`(TossGround\\w+)`");
        must(named.equals(there), "the page names the files under src/test/java: " + named + ", there are " + there);
    }

    static void pathsAreThere(String page) {
        for (String path : namedIn(page, "((?:src/|\\.ci/)[\\w/.]*\\w)")) must(new File(path).exists(), path + " is there");
        must(new File(".ci/run").canExecute(), ".ci/run can be executed");
    }

    public static void main(String[] args) throws Exception {
        String page = Files.readString(Path.of("README.md"));
        List<String> programs = blocks(page, "java");
        List<String> printed = blocks(page, "text");
        must(programs.size() == 1 && printed.size() == 1, "one program, and what it prints");
        must(printedBy(programs.get(0)).equals(printed.get(0)), "the program prints what README.md says");
        must(blocks(page, "sh").size() == 3, "how it is compiled, how all tests are run, how one is");
        callsAreNamed(page);
        testsAreNamed(page);
        pathsAreThere(page);
        System.out.println(wrong == 0 ? "all " + asked + " are so" : wrong + " of " + asked + " are not so");
        if (wrong != 0) System.exit(1);
    }
}
