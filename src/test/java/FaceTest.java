import java.lang.reflect.Constructor;
import java.lang.reflect.Field;
import java.lang.reflect.Method;
import java.lang.reflect.Modifier;
import java.util.Arrays;
import java.util.Set;
import java.util.TreeSet;

/** The public face is the document's, and nothing beside it can be seen from outside. */
public final class FaceTest {
    private static final String[] CONSTANTS = {
        "REFUSED=-1", "FULL=-2", "NO_TYPE=-3", "NO_MEMBER=-4", "FIXED=-5", "FITS=0", "MOVED=1", "STALE=2", "UNTIED=3",
        "LOST_TYPE=-6", "LOST_MEMBER=-7", "ILLEGAL=-8", "CHANGED=-9", "INTERFACE=1", "STATIC=1", "ABSTRACT=2",
        "FINAL=4", "HIDDEN=8", "CONSTANT=16",
    };
    private static final String[] METHODS = {
        "int type 5", "int drop 2", "int field 4", "int method 4", "int cut 4", "int copy 0", "int use 4",
        "int compile 2", "int link 1", "int recompile 1", "double value 2", "double share 0", "int breaking 0",
        "int broken 1", "int differ 1", "boolean under 3", "int count 2",
    };

    public static void main(String[] args) throws IllegalAccessException {
        Check check = new Check();
        check.due("public constants", visibleFields().toString(), sorted(CONSTANTS).toString());
        check.due("public methods", visibleMethods().toString(), sorted(METHODS).toString());
        Constructor<?>[] constructors = ApiCompare.class.getDeclaredConstructors();
        check.due("constructors", constructors.length, 1);
        check.due("constructor is public", Modifier.isPublic(constructors[0].getModifiers()), true);
        check.due("constructor takes", constructors[0].getParameterCount(), 0);
        check.due("class is final", Modifier.isFinal(ApiCompare.class.getModifiers()), true);
        check.due("class is public", Modifier.isPublic(ApiCompare.class.getModifiers()), true);
        privateMethodsHaveNamesOfTheirOwn(check);
        check.end();
    }

    private static Set<String> sorted(String[] texts) {
        return new TreeSet<>(Arrays.asList(texts));
    }

    private static Set<String> visibleFields() throws IllegalAccessException {
        Set<String> seen = new TreeSet<>();
        for (Field field : ApiCompare.class.getDeclaredFields()) {
            int modifiers = field.getModifiers();
            if (Modifier.isPrivate(modifiers)) {
                continue;
            }
            boolean isConstant = Modifier.isPublic(modifiers) && Modifier.isStatic(modifiers)
                    && Modifier.isFinal(modifiers) && field.getType() == int.class;
            seen.add(isConstant ? field.getName() + "=" + field.getInt(null) : "no constant: " + field);
        }
        return seen;
    }

    private static Set<String> visibleMethods() {
        Set<String> seen = new TreeSet<>();
        for (Method method : ApiCompare.class.getDeclaredMethods()) {
            if (Modifier.isPrivate(method.getModifiers()) || method.isSynthetic()) {
                continue;
            }
            boolean takesInts = Arrays.stream(method.getParameterTypes()).allMatch(type -> type == int.class);
            boolean isFace = Modifier.isPublic(method.getModifiers()) && !Modifier.isStatic(method.getModifiers())
                    && takesInts && method.getExceptionTypes().length == 0;
            String told = method.getReturnType() + " " + method.getName() + " " + method.getParameterCount();
            seen.add(isFace ? told : "not of the face: " + method);
        }
        return seen;
    }

    private static void privateMethodsHaveNamesOfTheirOwn(Check check) {
        Set<String> faceNames = new TreeSet<>();
        for (Method method : ApiCompare.class.getMethods()) {
            faceNames.add(method.getName());
        }
        for (Method method : ApiCompare.class.getDeclaredMethods()) {
            if (Modifier.isPrivate(method.getModifiers())) {
                check.due("private " + method.getName(), faceNames.contains(method.getName()), false);
            }
        }
    }
}
