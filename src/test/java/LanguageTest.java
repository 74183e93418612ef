import java.io.IOException;
import java.lang.reflect.Field;
import java.lang.reflect.Method;
import java.lang.reflect.Modifier;
import java.nio.file.Files;
import java.nio.file.Path;
import java.util.Set;
import java.util.TreeSet;
import java.util.regex.Matcher;
import java.util.regex.Pattern;

/** The face of the class, and the rules of LANGUAGE.md that a program can look at. */
public final class LanguageTest {
    private static final Set<String> FACE = new TreeSet<>(Set.of(
        "int machine()", "int lane(int,int,int,int,int,int)", "int size(int,int)", "int price(int,int,int)",
        "int tube(int,int,int)", "int stick(int,int,int)", "boolean shut(int,int,boolean)",
        "boolean power(int,boolean)", "int fill(int,int,int)", "int found(int,int,int)", "int empty(int,int)",
        "int insert(int,int)", "int back(int)", "int choose(int,int)", "int given(int)", "int change(int,int)",
        "int hours(int)", "int counted(int,int,int,int)", "int foretell(int,int,int)", "int when(int,int)",
        "int load(int,int)", "int loaded(int)", "int laneOf(int,int,int)", "int machineOf(int,int)",
        "int tubeOf(int,int)", "int collect(int)", "boolean check(int)", "int count(int)"));
    private static final Due due = new Due("LanguageTest");

    public static void main(String[] args) throws IOException {
        face();
        members();
        classesInside();
        source(Files.readString(Path.of("src/main/java/SlotHouse.java")));
        due.end();
    }

    private static void face() {
        Set<String> found = new TreeSet<>();
        for (Method m : SlotHouse.class.getDeclaredMethods()) {
            if (Modifier.isPublic(m.getModifiers())) {
                String text = m.toString();
                found.add(m.getReturnType() + " " + text.substring(text.indexOf("SlotHouse.") + 10));
            }
        }
        due.is("rule 1: the face, found " + found, found.equals(FACE), true);
        due.is("rule 1: one constructor", SlotHouse.class.getDeclaredConstructors().length, 1);
        due.is("rule 1: a public one", SlotHouse.class.getConstructors().length, 1);
        due.is("rule 1: final", Modifier.isFinal(SlotHouse.class.getModifiers()), true);
    }

    private static void members() {
        Set<String> publicNames = new TreeSet<>();
        for (String method : FACE) {
            publicNames.add(method.substring(method.indexOf(' ') + 1, method.indexOf('(')));
        }
        for (Method m : SlotHouse.class.getDeclaredMethods()) {
            if (!Modifier.isPublic(m.getModifiers())) {
                due.is("rule 1: private " + m, Modifier.isPrivate(m.getModifiers()), true);
                due.is("rule 1: name of " + m, publicNames.contains(m.getName()), false);
            }
        }
        fields(SlotHouse.class);
    }

    private static void fields(Class<?> c) {
        for (Field f : c.getDeclaredFields()) {
            due.is("private " + f, Modifier.isPrivate(f.getModifiers()), true);
            if (Modifier.isStatic(f.getModifiers())) {
                due.is("rule 5: final " + f, Modifier.isFinal(f.getModifiers()), true);
            }
        }
    }

    private static void classesInside() {
        due.is("rule 11: classes", SlotHouse.class.getDeclaredClasses().length <= 12, true);
        for (Class<?> c : SlotHouse.class.getDeclaredClasses()) {
            due.is("rule 1: static " + c, Modifier.isStatic(c.getModifiers()), true);
            due.is("rule 1: not public " + c, Modifier.isPublic(c.getModifiers()) || Modifier.isProtected(c.getModifiers()), false);
            fields(c);
        }
    }

    private static void source(String text) {
        String code = text.replaceAll("(?s)/\\*.*?\\*/", " ").replaceAll("//[^\n]*", " ");
        for (String word : new String[] {"throw", "throws", "try", "catch", "finally", "synchronized", "assert",
            "package", "System\\.(?!arraycopy)", "->", "::", "Exact\\b", "@", "equals", "hashCode", "toString", "Random", "Thread"}) {
            Matcher m = Pattern.compile(Character.isLetter(word.charAt(0)) ? "\\b" + word : word).matcher(code);
            due.is("rules 2, 4, 6, 13: " + word, m.find(), false);
        }
        Matcher imports = Pattern.compile("import\\s+([^;]*);").matcher(code);
        while (imports.find()) {
            due.is("rule 4: import " + imports.group(1), Set.of("java.util.Arrays", "java.util.ArrayList", "java.util.List").contains(imports.group(1)), true);
        }
    }
}
