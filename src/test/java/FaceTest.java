import java.io.IOException;
import java.lang.reflect.Constructor;
import java.lang.reflect.Executable;
import java.lang.reflect.Field;
import java.lang.reflect.Method;
import java.lang.reflect.Modifier;
import java.nio.file.Files;
import java.nio.file.Path;
import java.util.ArrayList;
import java.util.Arrays;
import java.util.List;
import java.util.Set;
import java.util.TreeSet;
import java.util.stream.Collectors;

// The public face against ../shared/DOC.md, and those rules of ../shared/LANGUAGE.md that
// can be seen without a parser. It runs from the project's root folder.
public final class FaceTest {
    private static final Due DUE = new Due();
    private static final Path SOURCE = Path.of("src/main/java/WatchPoses.java");
    private static final Path DOCUMENT = Path.of("../shared/DOC.md");

    /** A line of the document without the parameters' names: int wind(int) throws IllegalArgumentException. */
    private static String withoutNames(String line) {
        String text = line.strip().replace("public ", "").replace(";", "");
        int open = text.indexOf('(');
        int close = text.indexOf(')');
        String types = Arrays.stream(text.substring(open + 1, close).split(","))
            .map(parameter -> parameter.strip().split(" ")[0])
            .collect(Collectors.joining(", "));
        return text.substring(0, open + 1) + types + text.substring(close);
    }

    private static String ofExecutable(Executable e, String head) {
        String types = Arrays.stream(e.getParameterTypes()).map(Class::getSimpleName).collect(Collectors.joining(", "));
        String thrown = Arrays.stream(e.getExceptionTypes()).map(Class::getSimpleName).collect(Collectors.joining(", "));
        return head + "(" + types + ")" + (thrown.isEmpty() ? "" : " throws " + thrown);
    }

    private static void faceIsThatOfTheDocument() throws IOException {
        Set<String> want = new TreeSet<>();
        for (String line : Files.readAllLines(DOCUMENT)) {
            if (line.startsWith("    public ") && line.contains("(")) {
                want.add(withoutNames(line));
            }
        }
        Set<String> got = new TreeSet<>();
        for (Method m : WatchPoses.class.getDeclaredMethods()) {
            if (Modifier.isPublic(m.getModifiers())) {
                got.add(ofExecutable(m, m.getReturnType().getSimpleName() + " " + m.getName()));
            }
        }
        for (Constructor<?> c : WatchPoses.class.getDeclaredConstructors()) {
            got.add(ofExecutable(c, "WatchPoses"));
        }
        DUE.is("signatures in the document", want.size(), 29);
        DUE.holds("the face " + got + " is " + want, got.equals(want));
        DUE.holds("the class is public and final",
            (WatchPoses.class.getModifiers() & (Modifier.PUBLIC | Modifier.FINAL)) == (Modifier.PUBLIC | Modifier.FINAL));
    }

    private static void nothingElseIsSeen() {
        Set<String> names = new TreeSet<>();
        for (Method m : WatchPoses.class.getDeclaredMethods()) {
            if (Modifier.isPublic(m.getModifiers())) {
                names.add(m.getName());
            }
        }
        for (Method m : WatchPoses.class.getDeclaredMethods()) {
            boolean isPublic = Modifier.isPublic(m.getModifiers());
            DUE.holds(m + " is public or private", isPublic || Modifier.isPrivate(m.getModifiers()));
            DUE.holds(m + " has a name of its own", isPublic || !names.contains(m.getName()));
        }
        for (Field f : WatchPoses.class.getDeclaredFields()) {
            boolean isConstant = f.getName().equals("NONE") && Modifier.isPublic(f.getModifiers());
            DUE.holds(f + " is NONE or private", isConstant || Modifier.isPrivate(f.getModifiers()));
        }
        for (Class<?> inside : WatchPoses.class.getDeclaredClasses()) {
            DUE.holds(inside + " is static and not public",
                Modifier.isStatic(inside.getModifiers()) && !Modifier.isPublic(inside.getModifiers()));
        }
    }

    private static void sizesAreKept() {
        List<Class<?>> classes = new ArrayList<>(List.of(WatchPoses.class.getDeclaredClasses()));
        classes.add(WatchPoses.class);
        DUE.holds("at most 12 classes", classes.size() <= 12);
        for (Class<?> c : classes) {
            long fields = Arrays.stream(c.getDeclaredFields()).filter(f -> !Modifier.isStatic(f.getModifiers())).count();
            DUE.holds(c + " has at most 20 fields", fields <= 20);
            for (Field f : c.getDeclaredFields()) {
                DUE.holds(f + " is final, or not static",
                    !Modifier.isStatic(f.getModifiers()) || Modifier.isFinal(f.getModifiers()));
            }
            for (Method m : c.getDeclaredMethods()) {
                DUE.holds(m + " has at most 7 parameters", m.getParameterCount() <= 7);
                DUE.holds(m + " is no lambda", !m.isSynthetic());
            }
        }
    }

    private static void sourceKeepsToTheLanguage() throws IOException {
        String source = Files.readString(SOURCE);
        DUE.holds("all signs are 1 to 127", source.chars().allMatch(sign -> sign >= 1 && sign <= 127));
        String code = source.replaceAll("//[^\n]*", "").replaceAll("(?s)/\\*.*?\\*/", "");
        for (String ruledOut : new String[] {"import ", "package ", "->", "::", "Exact(", "catch", "finally", "assert ",
            "synchronized", "Double.", "Float.", "MAX_VALUE", "MIN_VALUE", "getMessage", "hashCode", "toString()", "instanceof", "System.out"}) {
            DUE.holds("no " + ruledOut, !code.contains(ruledOut));
        }
    }

    public static void main(String[] args) throws IOException {
        faceIsThatOfTheDocument();
        nothingElseIsSeen();
        sizesAreKept();
        sourceKeepsToTheLanguage();
        DUE.end("FaceTest");
    }
}
