import java.io.IOException;
import java.lang.reflect.Constructor;
import java.lang.reflect.Field;
import java.lang.reflect.Method;
import java.lang.reflect.Modifier;
import java.nio.file.Files;
import java.nio.file.Path;
import java.util.ArrayList;
import java.util.HashSet;
import java.util.List;
import java.util.Set;
import java.util.TreeSet;
import java.util.regex.Matcher;
import java.util.regex.Pattern;

/** The face of the class is the document's, and its source keeps to what can be looked for of LANGUAGE.md. */
public final class FaceTest {
    private static final String FACE = """
        int clear()
        int door(int, int, boolean, int, int) throws IllegalArgumentException, IndexOutOfBoundsException, UnsupportedOperationException
        int threshold(int) throws IllegalArgumentException, UnsupportedOperationException
        int govern(int, int) throws IndexOutOfBoundsException, IllegalArgumentException, UnsupportedOperationException
        int set(int, int) throws IndexOutOfBoundsException, UnsupportedOperationException
        int tellEnding(int, int, boolean, int) throws IllegalArgumentException, UnsupportedOperationException
        int key(int, int) throws IllegalArgumentException, UnsupportedOperationException
        int doorOf(int, int) throws IndexOutOfBoundsException, IllegalArgumentException
        int thresholdOf(int, int) throws IndexOutOfBoundsException, IllegalArgumentException
        char ending(int, int, boolean) throws IllegalArgumentException
        boolean areAlike(int, int, boolean) throws IndexOutOfBoundsException
        int couldBe(int) throws IndexOutOfBoundsException
        int twins(int) throws IndexOutOfBoundsException
        int syncretic(int) throws IllegalArgumentException
        int often(char) throws IllegalArgumentException
        int knock(int, int, boolean, int) throws IndexOutOfBoundsException, IllegalArgumentException, UnsupportedOperationException
        int shut(int) throws IndexOutOfBoundsException, UnsupportedOperationException
        int free(int, int) throws IndexOutOfBoundsException, UnsupportedOperationException
        int agrees(int, int, boolean, int) throws IndexOutOfBoundsException, IllegalArgumentException
        int keysFor(int) throws IndexOutOfBoundsException
        int way(int, int, boolean) throws IndexOutOfBoundsException, NoSuchElementException
        int reached(int) throws IndexOutOfBoundsException
        int best(int) throws IndexOutOfBoundsException, NoSuchElementException
        int ranked(int, int) throws IllegalArgumentException, NoSuchElementException
        boolean isRight()
        int line(int) throws IndexOutOfBoundsException
        int endings(int) throws IllegalArgumentException
        char character(int) throws IndexOutOfBoundsException
        int refusal(boolean) throws IllegalStateException
        int account(int) throws IllegalArgumentException
        double meanKnocks() throws ArithmeticException
        float agreedShare() throws ArithmeticException
        int append(int) throws IllegalArgumentException, IllegalStateException
        int read() throws IllegalArgumentException, UnsupportedOperationException
        int errorPosition() throws NoSuchElementException
        int refusedItem() throws NoSuchElementException
        int undo() throws IllegalStateException
        int snapshot()
        int restore() throws IllegalStateException
        """;

    private static final String[] RULED_OUT = {
        "->", "::", "\\bfinally\\b", "\\bsynchronized\\b", "\\bassert\\b", "\\btry\\b", "\\bcatch\\b", "Exact\\b",
        "\\bwhile\\b", "\\bThread\\b", "\\bObject\\b", "\\bSystem\\.(?!arraycopy\\b)", "\\bMath\\.(?!floorMod\\b|max\\b)",
        "\\bhashCode\\b", "\\btoString\\b", "\\bequals\\b", "\\bprotected\\b", "@"
    };

    public static void main(String[] args) throws IOException {
        Set<String> names = publicMethodsAreTheFace();
        theClassIsAsItMustBe(names);
        theSourceKeepsToTheRules();
        Check.end("FaceTest");
    }

    private static Set<String> publicMethodsAreTheFace() {
        Set<String> due = new TreeSet<>(List.of(FACE.strip().split("\\s*\\n\\s*")));
        Set<String> got = new TreeSet<>();
        Set<String> names = new HashSet<>();
        for (Method method : DoorDialect.class.getDeclaredMethods()) {
            if (Modifier.isPublic(method.getModifiers())) {
                got.add(told(method));
                names.add(method.getName());
                Check.due(method + " is of objects", Modifier.isStatic(method.getModifiers()), false);
            }
        }
        Check.due("the face", got, due);
        return names;
    }

    private static String told(Method method) {
        List<String> types = new ArrayList<>();
        for (Class<?> type : method.getParameterTypes()) {
            types.add(type.getSimpleName());
        }
        List<String> thrown = new ArrayList<>();
        for (Class<?> type : method.getExceptionTypes()) {
            thrown.add(type.getSimpleName());
        }
        return method.getReturnType().getSimpleName() + " " + method.getName() + "(" + String.join(", ", types) + ")"
                + (thrown.isEmpty() ? "" : " throws " + String.join(", ", thrown));
    }

    private static void theClassIsAsItMustBe(Set<String> names) {
        Class<?> face = DoorDialect.class;
        Check.due("public and final", Modifier.isPublic(face.getModifiers()) && Modifier.isFinal(face.getModifiers()), true);
        Constructor<?>[] constructors = face.getDeclaredConstructors();
        Check.due("constructors", constructors.length, 1);
        Check.due("without parameters", constructors[0].getParameterCount(), 0);
        Check.due("a public constructor", Modifier.isPublic(constructors[0].getModifiers()), true);
        for (Field field : face.getDeclaredFields()) {
            Check.due(field + " is private", Modifier.isPrivate(field.getModifiers()), true);
        }
        int[] counts = {0, 0};
        classIsSmall(face);
        for (Method method : face.getDeclaredMethods()) {
            boolean isPublic = Modifier.isPublic(method.getModifiers());
            Check.due(method + " is public or private", isPublic || Modifier.isPrivate(method.getModifiers()), true);
            Check.due(method + " bears a name of the face", names.contains(method.getName()), isPublic);
            Check.due(method + " has at most 7 parameters", method.getParameterCount() <= 7, true);
            counts[0]++;
        }
        for (Class<?> inside : face.getDeclaredClasses()) {
            Check.due(inside + " is static", Modifier.isStatic(inside.getModifiers()), true);
            Check.due(inside + " is not public", Modifier.isPublic(inside.getModifiers()), false);
            classIsSmall(inside);
            for (Method method : inside.getDeclaredMethods()) {
                Check.due(method + " bears a name of the face", names.contains(method.getName()), false);
            }
            counts[1]++;
        }
        Check.due("some methods and at most twelve classes", counts[0] > 39 && counts[1] <= 11, true);
    }

    private static void classIsSmall(Class<?> looked) {
        int fields = 0;
        for (Field field : looked.getDeclaredFields()) {
            if (Modifier.isStatic(field.getModifiers())) {
                Check.due(field + " is final", Modifier.isFinal(field.getModifiers()), true);
            } else {
                fields++;
            }
        }
        Check.due(looked + " has at most twenty fields", fields <= 20, true);
    }

    private static void theSourceKeepsToTheRules() throws IOException {
        String source = Files.readString(Path.of("src/main/java/DoorDialect.java"));
        Check.due("signs of ASCII alone", source.chars().allMatch(c -> c == '\n' || c >= 32 && c < 127), true);
        String code = source.replaceAll("(?s)/\\*.*?\\*/", "").replaceAll("//[^\\n]*", "")
                .replaceAll("\"[^\"\\n]*\"", "\"\"").replaceAll("'[^'\\n]+'", "' '");
        for (String ruledOut : RULED_OUT) {
            Check.due("the source has " + ruledOut, Pattern.compile(ruledOut).matcher(code).find(), false);
        }
        Set<String> imports = new TreeSet<>();
        Matcher imported = Pattern.compile("(?m)^import (.*);$").matcher(code);
        while (imported.find()) {
            imports.add(imported.group(1));
        }
        Check.due("imports", imports, Set.of("java.util.NoSuchElementException"));
        Check.due("no method is longer than sixty lines", longestMethod(source) <= 60, true);
    }

    private static int longestMethod(String source) {
        int longest = 0;
        int start = 0;
        String indent = "";
        String[] lines = source.split("\n");
        for (int i = 0; i < lines.length; i++) {
            if (lines[i].matches(" {4,8}[a-z].*\\(.*") && !lines[i].endsWith(";")) {
                start = i;
                indent = lines[i].replaceAll("\\S.*", "");
            } else if (lines[i].equals(indent + "}") && !indent.isEmpty()) {
                longest = Math.max(longest, i - start + 1);
            }
        }
        return longest;
    }
}
