import java.io.IOException;
import java.lang.reflect.Constructor;
import java.lang.reflect.Field;
import java.lang.reflect.Method;
import java.lang.reflect.Modifier;
import java.nio.file.Files;
import java.nio.file.Path;
import java.util.ArrayList;
import java.util.Arrays;
import java.util.List;
import java.util.Set;
import java.util.TreeSet;
import java.util.regex.Matcher;
import java.util.regex.Pattern;

/** The rules of LANGUAGE.md that can be read from the class and its text. Run it from the project's folder. */
public final class LanguageTest {
    private static final Path SOURCE = Path.of("src/main/java/OneLamp.java");
    private static final Set<String> CALLS = new TreeSet<>(Arrays.asList(
        "int lamps(int)", "int begin(int)", "int bar(int)", "int bars(int,int,int)", "int feed(int)", "int law()",
        "int set(int,int)", "int cost(int,int)", "int now(int)", "int picture(int,int)", "int lamp(int,int)", "int may()",
        "int change(int)", "int longest(int)", "int wished(int)", "int game(int)", "int ways(int,int)", "int judge(int)",
        "long mirror(long,int)", "int several(int,long)", "int through(int,int,int)", "int image()", "int back()",
        "int undo()", "int redo()", "int body(int)", "int act(int,int,int)", "int trace(int)", "int keep(int,int)",
        "int row(int,int,int)", "int put(int,int,long)", "long element(int,int)", "int shift(int,int,int,int,int)",
        "int taken(int,int)", "int count(int)"));
    private static final Due due = new Due("LanguageTest");

    public static void main(String[] args) throws IOException {
        face();
        for (Class<?> inside : OneLamp.class.getDeclaredClasses()) {
            classInside(inside);
        }
        due.is("at most twelve classes", 1 + OneLamp.class.getDeclaredClasses().length <= 12 ? 1 : 0, 1);
        String text = withoutCommentsAndTexts(Files.readString(SOURCE));
        words(text);
        library(text);
        lengths(text);
        due.end();
    }

    private static void face() {
        due.of("rule 1");
        due.is("OneLamp is public and final", OneLamp.class.getModifiers(), Modifier.PUBLIC | Modifier.FINAL);
        Set<String> found = new TreeSet<>();
        Set<String> names = new TreeSet<>();
        for (Method method : OneLamp.class.getDeclaredMethods()) {
            if (Modifier.isPublic(method.getModifiers())) {
                String types = Arrays.toString(method.getParameterTypes()).replaceAll("[\\[\\] ]", "");
                found.add(method.getReturnType() + " " + method.getName() + "(" + types + ")");
                names.add(method.getName());
            }
        }
        due.is("the calls are the document's: " + found, found.equals(CALLS) ? 1 : 0, 1);
        List<Class<?>> classes = new ArrayList<>(Arrays.asList(OneLamp.class.getDeclaredClasses()));
        classes.add(OneLamp.class);
        for (Class<?> owner : classes) {
            for (Method method : owner.getDeclaredMethods()) {
                boolean open = owner == OneLamp.class && Modifier.isPublic(method.getModifiers());
                due.is(owner + "'s " + method.getName() + " has a name of its own",
                    open || !names.contains(method.getName()) ? 1 : 0, 1);
                due.is(owner + "'s " + method.getName() + " is private",
                    open || owner != OneLamp.class || Modifier.isPrivate(method.getModifiers()) ? 1 : 0, 1);
                due.is(method.getName() + " has few parameters", method.getParameterCount() <= 7 ? 1 : 0, 1);
            }
        }
        Constructor<?>[] constructors = OneLamp.class.getDeclaredConstructors();
        due.is("one constructor", constructors.length, 1);
        due.is("it is public", constructors[0].getModifiers(), Modifier.PUBLIC);
        Set<String> constants = new TreeSet<>(Arrays.asList("BAD", "NOT", "FULL", "STATE", "VOID"));
        for (Field field : OneLamp.class.getDeclaredFields()) {
            due.is(field.getName() + " is private, or a constant", constants.contains(field.getName())
                == Modifier.isPublic(field.getModifiers()) ? 1 : 0, 1);
            due.is(field.getName() + " is private, or public", Modifier.isPrivate(field.getModifiers())
                || Modifier.isPublic(field.getModifiers()) ? 1 : 0, 1);
        }
        fields(OneLamp.class);
    }

    private static void classInside(Class<?> inside) {
        due.of("rules 1, 2, 5");
        due.is(inside + " is static", Modifier.isStatic(inside.getModifiers()) ? 1 : 0, 1);
        due.is(inside + " is not public", Modifier.isPublic(inside.getModifiers()) ? 1 : 0, 0);
        due.is(inside + " has no class inside", inside.getDeclaredClasses().length, 0);
        fields(inside);
    }

    private static void fields(Class<?> owner) {
        int own = 0;
        for (Field field : owner.getDeclaredFields()) {
            boolean isStatic = Modifier.isStatic(field.getModifiers());
            own += isStatic ? 0 : 1;
            due.is(owner + ": " + field.getName() + ", if static, is final",
                !isStatic || Modifier.isFinal(field.getModifiers()) ? 1 : 0, 1);
        }
        due.is(owner + " has few fields: " + own, own <= 20 ? 1 : 0, 1);
    }

    private static void words(String text) {
        due.of("rules 2, 4, 6");
        for (String word : new String[] {"throw", "throws", "try", "catch", "finally", "synchronized", "assert", "->", "::",
            "Object", "hashCode", "Exact", "package", "protected", "volatile", "transient", "native", "while (true", "for (;;",
            "sqrt", "random", "Random", "Thread", "Runtime", "getClass", "java.io", "java.time", "HashMap",
            "HashSet", "Scanner", "static {"}) {
            boolean isWord = Character.isLetter(word.charAt(0)) && Character.isLetter(word.charAt(word.length() - 1));
            String pattern = isWord ? "(?s).*\\b" + Pattern.quote(word) + "\\b.*" : "(?s).*" + Pattern.quote(word) + ".*";
            due.is("no " + word, text.matches(pattern) ? 1 : 0, 0);
        }
        due.is("signs 1 to 127", text.chars().allMatch(c -> c > 0 && c < 128) ? 1 : 0, 1);
    }

    private static void library(String text) {
        due.of("rule 4");
        Set<String> imported = Set.of("java.util.Arrays", "java.util.ArrayList", "java.util.List", "java.util.Iterator");
        for (String line : text.split("\n")) {
            if (line.startsWith("import ")) {
                due.is(line, imported.contains(line.substring(7, line.length() - 1)) ? 1 : 0, 1);
            }
        }
        Set<String> ofArrays = Set.of("copyOf", "copyOfRange", "fill");
        Set<String> ofNumbers = Set.of("compare", "max", "min", "abs", "bitCount", "floorDiv", "floorMod", "signum",
            "numberOfLeadingZeros", "numberOfTrailingZeros", "highestOneBit", "lowestOneBit", "MIN_VALUE", "MAX_VALUE");
        Matcher calls = Pattern.compile("\\b(Arrays|System|Integer|Long|Math)\\.(\\w+)").matcher(text);
        while (calls.find()) {
            String name = calls.group(2);
            Set<String> allowed = calls.group(1).equals("System") ? Set.of("arraycopy")
                : calls.group(1).equals("Arrays") ? ofArrays : ofNumbers;
            due.is(calls.group(), allowed.contains(name) ? 1 : 0, 1);
        }
    }

    private static void lengths(String text) {
        due.of("rule 11");
        int from = -1;
        String[] lines = text.split("\n");
        for (int k = 0; k < lines.length; k++) {
            boolean head = lines[k].matches(" {4,8}\\S.*\\) \\{") && !lines[k].matches(" +(if|for|while|switch|else).*");
            if (head) {
                from = k;
            }
            boolean end = from >= 0 && lines[k].matches(" {4,8}\\}")
                && lines[k].indexOf('}') == lines[from].indexOf(lines[from].trim().charAt(0));
            if (end) {
                due.is("line " + (from + 1) + ", " + (k - from + 1) + " lines", k - from + 1 <= 60 ? 1 : 0, 1);
                from = -1;
            }
        }
    }

    private static String withoutCommentsAndTexts(String text) {
        return text.replaceAll("(?s)/\\*.*?\\*/", "").replaceAll("//[^\n]*", "").replaceAll("'[^'\n]{1,2}'", "0");
    }
}
