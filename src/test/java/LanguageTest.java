import java.io.IOException;
import java.lang.reflect.Field;
import java.lang.reflect.Method;
import java.lang.reflect.Modifier;
import java.nio.file.Files;
import java.nio.file.Path;
import java.util.Map;
import java.util.Set;
import java.util.TreeMap;
import java.util.TreeSet;
import java.util.regex.Matcher;
import java.util.regex.Pattern;

/**
 * The face of the class, and the rules of LANGUAGE.md that a program can look at. Where the class needs
 * less than a rule leaves, the test asks for the less: it is easier to look at.
 */
public final class LanguageTest {
    private static final int MOST_LINES = 60;
    private static final int MOST_PARAMETERS = 7;
    private static final int MOST_FIELDS = 20;
    private static final int MOST_CLASSES = 12;
    private static final int DEEPEST = 8;
    /** README.md says that no other method makes an object; the classes' constructors and fields may. */
    private static final Set<String> MAKERS = Set.of("SlotHouse", "machine", "lane");
    private static final Set<String> LIBRARY = Set.of("Math.min", "Math.max", "Arrays.fill", "System.arraycopy");
    private static final Due due = new Due("LanguageTest");

    public static void main(String[] args) throws IOException {
        face();
        names();
        classes();
        String text = Files.readString(Path.of("src/main/java/SlotHouse.java"));
        String code = text.replaceAll("(?s)/\\*.*?\\*/", " ").replaceAll("//[^\n]*", " ");
        words(code);
        library(code);
        loops(code);
        Map<String, String> methods = methods(code);
        due.is("methods are found in the text", methods.size() > Face.METHODS.size(), true);
        lengths(methods);
        makers(methods);
        calls(methods);
        due.end();
    }

    private static void face() {
        Set<String> told = new TreeSet<>();
        for (String method : Face.METHODS) {
            told.add(Face.withoutNames(method));
        }
        Set<String> found = new TreeSet<>();
        for (Method m : SlotHouse.class.getDeclaredMethods()) {
            if (Modifier.isPublic(m.getModifiers())) {
                String text = m.toString();
                due.is("rule 1: of an object, " + text, Modifier.isStatic(m.getModifiers()), false);
                found.add(m.getReturnType() + " " + text.substring(text.indexOf("SlotHouse.") + 10));
            }
        }
        due.is("rule 1: the face, found " + found, found.equals(told), true);
        due.is("rule 1: one constructor", SlotHouse.class.getDeclaredConstructors().length, 1);
        due.is("rule 1: a public one", SlotHouse.class.getConstructors().length, 1);
        due.is("rule 1: it takes nothing", SlotHouse.class.getConstructors()[0].getParameterCount(), 0);
        due.is("rule 1: public", Modifier.isPublic(SlotHouse.class.getModifiers()), true);
        due.is("rule 1: final", Modifier.isFinal(SlotHouse.class.getModifiers()), true);
        due.is("rule 1: no public field", SlotHouse.class.getFields().length, 0);
        due.is("without a package", SlotHouse.class.getPackageName().isEmpty(), true);
    }

    private static void names() {
        for (Method m : SlotHouse.class.getDeclaredMethods()) {
            if (!Modifier.isPublic(m.getModifiers())) {
                due.is("rule 1: private " + m, Modifier.isPrivate(m.getModifiers()), true);
                due.is("rule 1: name of " + m, Face.named(m.getName()) != null, false);
            }
        }
    }

    private static void classes() {
        Class<?>[] inside = SlotHouse.class.getDeclaredClasses();
        due.is("rule 11: classes", 1 + inside.length <= MOST_CLASSES, true);
        members(SlotHouse.class);
        for (Class<?> c : inside) {
            due.is("rule 1: static " + c, Modifier.isStatic(c.getModifiers()), true);
            due.is("rule 1: not public " + c, Modifier.isPublic(c.getModifiers()) || Modifier.isProtected(c.getModifiers()), false);
            members(c);
        }
    }

    private static void members(Class<?> c) {
        int own = 0;
        for (Field f : c.getDeclaredFields()) {
            boolean isStatic = Modifier.isStatic(f.getModifiers());
            own += isStatic ? 0 : 1;
            due.is("private " + f, Modifier.isPrivate(f.getModifiers()), true);
            due.is("rule 3: type of " + f, isKnown(f.getType(), isStatic), true);
            due.is("rule 5: final " + f, !isStatic || Modifier.isFinal(f.getModifiers()), true);
        }
        due.is("rule 11: fields of " + c, own <= MOST_FIELDS, true);
        for (Method m : c.getDeclaredMethods()) {
            due.is("rule 11: parameters of " + m, m.getParameterCount() <= MOST_PARAMETERS, true);
        }
    }

    /** Numbers and arrays of them; what is no constant may also be of a class of the file. */
    private static boolean isKnown(Class<?> type, boolean isConstant) {
        if (Set.<Class<?>>of(int.class, boolean.class, int[].class).contains(type)) {
            return true;
        }
        Class<?> part = type.isArray() ? type.getComponentType() : type;
        return !isConstant && (type == int[][].class || part.getEnclosingClass() == SlotHouse.class);
    }

    private static void words(String code) {
        for (String word : new String[] {"throw", "throws", "try", "catch", "finally", "synchronized", "assert",
            "package", "->", "::", "Exact\\b", "@", "equals", "hashCode", "toString", "Random", "Thread", "double", "float",
            "instanceof", "static\\s*\\{", "\""}) {
            Matcher m = Pattern.compile(Character.isLetter(word.charAt(0)) ? "\\b" + word : word).matcher(code);
            due.is("rules 2 to 6, 10, 13: " + word, m.find(), false);
        }
        due.is("rule 2: no class without a name", Pattern.compile("new \\w+\\([^)]*\\)\\s*\\{").matcher(code).find(), false);
    }

    private static void library(String code) {
        Matcher imports = Pattern.compile("import\\s+([^;]*);").matcher(code);
        while (imports.find()) {
            due.is("rule 4: import " + imports.group(1), imports.group(1).equals("java.util.Arrays"), true);
        }
        Matcher used = Pattern.compile("\\b([A-Z]\\w*[a-z]\\w*\\.\\w+)\\(").matcher(code);
        while (used.find()) {
            due.is("rule 4: " + used.group(1), LIBRARY.contains(used.group(1)), true);
        }
    }

    /** Rule 9: each loop is a for whose counter stands against a bound and is stepped in its head. */
    private static void loops(String code) {
        Matcher loops = Pattern.compile("\\b(while|do|for)\\b([^{]*)\\{").matcher(code);
        Pattern counted = Pattern.compile(" \\(int (\\w+) = [^;]*; \\1 (<|<=|>|>=) [^;]*; \\1(\\+\\+|--)\\) ");
        while (loops.find()) {
            due.is("rule 9:" + loops.group(), counted.matcher(loops.group(2)).matches(), true);
        }
    }

    /** The methods and constructors of the file with their text; those of one name are joined. */
    private static Map<String, String> methods(String code) {
        Map<String, String> methods = new TreeMap<>();
        Matcher m = Pattern.compile("(?ms)^( {4}| {8})((?:\\w+(?:\\[\\])* )*)(\\w+)\\([^;{]*\\) \\{\n.*?^\\1\\}\n").matcher(code);
        while (m.find()) {
            if (!Set.of("if", "for", "switch").contains(m.group(3))) {
                methods.merge(m.group(3), m.group(), String::concat);
            }
        }
        return methods;
    }

    private static void lengths(Map<String, String> methods) {
        for (Map.Entry<String, String> m : methods.entrySet()) {
            due.is("rule 11: lines of " + m.getKey(), m.getValue().split("\n").length <= MOST_LINES, true);
        }
    }

    private static void makers(Map<String, String> methods) {
        for (Map.Entry<String, String> m : methods.entrySet()) {
            boolean makes = Pattern.compile("\\bnew\\b|\\.clone\\(").matcher(m.getValue()).find();
            due.is("rule 12: objects made by " + m.getKey(), makes && !MAKERS.contains(m.getKey()), false);
        }
    }

    /** Rules 8 and 11: who calls whom, by names; none comes back to itself. */
    private static void calls(Map<String, String> methods) {
        for (String method : methods.keySet()) {
            int depth = depth(methods, method, 0);
            due.is("rules 8 and 11: depth of the calls of " + method + ", " + depth, depth <= DEEPEST, true);
        }
    }

    private static int depth(Map<String, String> methods, String method, int above) {
        if (above > DEEPEST) {
            return above;
        }
        int deepest = 1;
        String text = methods.get(method);
        Matcher calls = Pattern.compile("\\b(\\w+)\\(").matcher(text.substring(text.indexOf('\n')));
        while (calls.find()) {
            if (methods.containsKey(calls.group(1))) {
                deepest = Math.max(deepest, 1 + depth(methods, calls.group(1), above + 1));
            }
        }
        return deepest;
    }
}
