import java.lang.reflect.Constructor;
import java.lang.reflect.Field;
import java.lang.reflect.Method;
import java.lang.reflect.Modifier;
import java.util.Set;
import java.util.TreeMap;
import java.util.TreeSet;

/** The face of the class: what the document names, and nothing else that is not private. */
public final class FaceTest {
    private static final String[] METHODS = {
        "commit(int)", "fork(int)", "moveHead(int,int)", "merge(int,int)", "drop(int)",
        "storeWhole(int)", "rebase(int,int)", "setLimit(int)", "optimize()", "spoil(int)",
        "mend(int,int)", "type(char)", "clearText()", "undo()", "keep()", "restore()",
        "read(int,int)", "version(int,int)", "why(int,int)", "way(int,int)", "differ(int,int)",
        "bestBase(int)", "common(int,int)", "head(int)", "count(int)"};
    private static final String[] CONSTANTS = {
        "UNKNOWN", "BAD_VALUE", "FULL", "NOT_POSSIBLE", "NONE", "SPOILED", "TOO_FAR"};

    public static void main(String[] args) throws IllegalAccessException {
        methods();
        constants();
        constructors();
        namesInside();
        strangeArguments();
        Check.end();
    }

    private static String signature(Method method) {
        StringBuilder signature = new StringBuilder(method.getName()).append('(');
        for (Class<?> type : method.getParameterTypes()) {
            signature.append(signature.toString().endsWith("(") ? "" : ",").append(type.getName());
        }
        return signature.append(')').toString();
    }

    private static void methods() {
        Set<String> found = new TreeSet<>();
        for (Method method : StepVersions.class.getDeclaredMethods()) {
            if (Modifier.isPrivate(method.getModifiers())) {
                continue;
            }
            found.add(signature(method));
            Check.due(method + " public", Modifier.PUBLIC, method.getModifiers());
            Check.due(method + " int", 1, method.getReturnType() == int.class ? 1 : 0);
        }
        Check.same("methods", new TreeSet<>(Set.of(METHODS)).toString(), found.toString());
    }

    private static void constants() throws IllegalAccessException {
        TreeMap<Integer, String> found = new TreeMap<>();
        for (Field field : StepVersions.class.getDeclaredFields()) {
            if (Modifier.isPrivate(field.getModifiers())) {
                continue;
            }
            Check.due(field + " public static final",
                    Modifier.PUBLIC | Modifier.STATIC | Modifier.FINAL, field.getModifiers());
            found.put(-1 - field.getInt(null), field.getName());
        }
        Check.same("constants", String.join(",", CONSTANTS), String.join(",", found.values()));
        Check.due("lowest constant", 6, found.lastKey());
    }

    private static void constructors() {
        Constructor<?>[] found = StepVersions.class.getDeclaredConstructors();
        Check.due("constructors", 1, found.length);
        Check.due("public", Modifier.PUBLIC, found[0].getModifiers());
        Check.due("without arguments", 0, found[0].getParameterCount());
        Check.due("class", Modifier.PUBLIC | Modifier.FINAL, StepVersions.class.getModifiers());
    }

    /** No method inside bears the name of a public one. */
    private static void namesInside() {
        Set<String> names = new TreeSet<>();
        for (Method method : StepVersions.class.getMethods()) {
            names.add(method.getName());
        }
        for (Class<?> inside : StepVersions.class.getDeclaredClasses()) {
            Check.due(inside + " static", 1, Modifier.isStatic(inside.getModifiers()) ? 1 : 0);
            for (Method method : inside.getDeclaredMethods()) {
                Check.due(method + " has a public name", 0, names.contains(method.getName()) ? 1 : 0);
            }
        }
    }

    /** No call throws for the ends of the range of int, on an object in any of some states. */
    private static void strangeArguments() {
        int[] strange = {Integer.MIN_VALUE, -1, 4, 12, 39, 40, 41, 60, Integer.MAX_VALUE};
        StepVersions x = Check.chain("0=1", "0=2");
        for (int version = 3; version < 40; version++) {
            for (int one : strange) {
                for (int other : strange) {
                    callAll(x, one, other);
                }
            }
            Check.commit(x, 0, "5=" + version);
        }
    }

    private static void callAll(StepVersions x, int one, int other) {
        x.commit(one);
        x.fork(one);
        x.moveHead(one, other);
        x.merge(one, other);
        x.drop(one);
        x.storeWhole(one);
        x.rebase(one, other);
        x.setLimit(one);
        x.spoil(one);
        x.undo();
        x.mend(one, other);
        x.read(one, other);
        x.version(one, other);
        x.why(one, other);
        x.way(one, other);
        x.differ(one, other);
        x.bestBase(one);
        x.common(one, other);
        x.head(one);
        x.count(one);
    }
}
