import java.lang.reflect.InvocationTargetException;
import java.lang.reflect.Method;
import java.util.ArrayList;
import java.util.List;

/** The document's public face, word for word, and calls by name of what it tells. */
final class Face {
    static final List<String> METHODS = List.of(
        "int machine()",
        "int lane(int machine, int good, int price, int depth, int kind, int keep)",
        "int size(int good, int v)",
        "int price(int machine, int lane, int v)",
        "int tube(int machine, int worth, int n)",
        "int stick(int machine, int lane, int n)",
        "boolean shut(int machine, int lane, boolean on)",
        "boolean power(int machine, boolean on)",
        "int fill(int machine, int lane, int n)",
        "int found(int machine, int lane, int n)",
        "int empty(int machine, int lane)",
        "int insert(int machine, int worth)",
        "int back(int machine)",
        "int choose(int machine, int lane)",
        "int given(int worth)",
        "int change(int machine, int v)",
        "int hours(int n)",
        "int counted(int machine, int good, int hour, int what)",
        "int foretell(int machine, int good, int n)",
        "int when(int machine, int lane)",
        "int load(int machine, int room)",
        "int loaded(int lane)",
        "int laneOf(int machine, int lane, int what)",
        "int machineOf(int machine, int what)",
        "int tubeOf(int machine, int worth)",
        "int collect(int machine)",
        "boolean check(int machine)",
        "int count(int what)");

    private Face() {
    }

    static String nameOf(String method) {
        return method.substring(method.indexOf(' ') + 1, method.indexOf('('));
    }

    /** The method of that name; null if the face has none. */
    static String named(String name) {
        return METHODS.stream().filter(m -> nameOf(m).equals(name)).findFirst().orElse(null);
    }

    /** The parameters of a method, each as "type name". */
    static List<String> parametersOf(String method) {
        String inside = method.substring(method.indexOf('(') + 1, method.indexOf(')'));
        return inside.isEmpty() ? List.of() : List.of(inside.split(", "));
    }

    /** "int lane(int,int,int,int,int,int)": as reflection tells a method. */
    static String withoutNames(String method) {
        List<String> types = new ArrayList<>();
        for (String parameter : parametersOf(method)) {
            types.add(parameter.substring(0, parameter.indexOf(' ')));
        }
        return method.substring(0, method.indexOf('(') + 1) + String.join(",", types) + ")";
    }

    /** Calls the method of that name of any house; a boolean counts 1 or 0. */
    static int call(Object house, String name, Object... arguments) throws ReflectiveOperationException {
        for (Method m : house.getClass().getDeclaredMethods()) {
            if (m.getName().equals(name)) {
                Object answer = m.invoke(house, arguments);
                return answer instanceof Boolean told ? (told ? 1 : 0) : (Integer) answer;
            }
        }
        throw new InvocationTargetException(null, "no method " + name);
    }
}
