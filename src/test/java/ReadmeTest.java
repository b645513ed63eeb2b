import java.io.IOException;
import java.lang.reflect.Method;
import java.lang.reflect.Modifier;
import java.nio.file.Files;
import java.nio.file.Path;
import java.util.List;
import java.util.TreeSet;
import java.util.regex.Matcher;
import java.util.regex.Pattern;

// What README.md says of the class, in its order. It runs from the project's root folder.
public final class ReadmeTest {
    private static final Due DUE = new Due();

    private static void examples() {
        WatchPoses watch = new WatchPoses();
        DUE.is("wind(20)", watch.wind(20), 20);
        DUE.is("read(0)", watch.read(0) - 10000, 2);
        DUE.is("pass(8)", watch.pass(8), 8);
        DUE.is("the error", watch.count(8) - 1000000, 0);
        DUE.is("stopsIn(2)", watch.stopsIn(2), 12);
        long before = watch.digest();
        Due.type(watch, "w48;p3;+5;r3");
        DUE.is("firstError()", watch.firstError(), 12);
        DUE.is("obey()", watch.obey(), 4);
        watch.undo();
        DUE.is("all four are taken back", watch.digest(), before);
        Due.type(watch, "g-7;+12;r2;w9");
        DUE.is("obey() up to the reading", watch.obey(), 2);
        DUE.is("the regulator is set", watch.count(2) - 100, -7);
        DUE.is("it has run down and is not wound", watch.count(1), 0);
        DUE.is("stopped(0)", watch.stopped(0), 2);
        DUE.is("stopped(1)", watch.stopped(1), 1);
        DUE.is("stopped(2)", watch.stopped(2), 2);
    }

    private static void examplesStandThere() throws IOException {
        String readme = Files.readString(Path.of("README.md"));
        for (String told : List.of("watch.wind(20);                        // 20:", "watch.read(0) - 10000;      // 2:",
            "watch.pass(8);                         // 8:", "watch.count(8) - 1000000;  // 0:",
            "watch.stopsIn(2);           // 12:", "\"w48;p3;+5;r3\"", "watch.firstError();                    // 12,",
            "watch.obey();                          // 4 parts", "\"g-7;+12;r2;w9\"",
            "watch.obey();                          // 2:", "watch.stopped(0);                      // 2:",
            "watch.stopped(1);                      // 1:", "watch.stopped(2);                      // 2:")) {
            DUE.holds("README.md tells " + told, readme.contains(told));
        }
    }

    private static void tableNamesEveryCall() throws IOException {
        TreeSet<String> told = new TreeSet<>();
        for (String line : Files.readAllLines(Path.of("README.md"))) {
            Matcher name = Pattern.compile("`(\\w+)`").matcher(line);
            while (line.startsWith("|") && name.find()) {
                told.add(name.group(1));
            }
        }
        TreeSet<String> calls = new TreeSet<>();
        for (Method method : WatchPoses.class.getDeclaredMethods()) {
            if (Modifier.isPublic(method.getModifiers())) {
                calls.add(method.getName());
            }
        }
        DUE.holds("the table " + told + " has the calls " + calls, told.equals(calls));
    }

    private static void everyTestIsTold() throws IOException {
        String readme = Files.readString(Path.of("README.md"));
        for (String name : Path.of("src/test/java").toFile().list()) {
            if (name.endsWith("Test.java")) {
                String test = name.substring(0, name.length() - ".java".length());
                DUE.holds("README.md tells of " + test, readme.contains("`" + test + "`"));
            }
        }
    }

    public static void main(String[] args) throws IOException {
        examples();
        examplesStandThere();
        tableNamesEveryCall();
        everyTestIsTold();
        DUE.end("ReadmeTest");
    }
}
