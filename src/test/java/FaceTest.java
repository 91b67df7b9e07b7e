import java.lang.reflect.Constructor;
import java.lang.reflect.Field;
import java.lang.reflect.Method;
import java.lang.reflect.Modifier;
import java.util.HashSet;
import java.util.Set;
import java.util.TreeSet;

/** The public face: its constants, constructor and methods, and nothing beside them. */
public final class FaceTest {
    private static final String[] METHODS = {
        "int hour(int)", "int tap()", "int stick(int)", "int day(int,int,int,int,int,int)", "int tear()",
        "int look(int,int)", "int say(int)", "int wipe()", "int fault()", "int saying(int)", "int odds(int,int)",
        "int such(int,int)", "int wire(int,int)", "int set(int,int)", "long score(int,int)",
        "int means(int,int,int,int)", "int best(int)", "int tried(int,int)", "long lot(int,int)",
        "long changed(int,int)", "int engraved(int)", "int right(int)", "int glass(int,int,int,int)", "int clear()",
        "int may(int,int)", "long low(int,int,int)", "int hay(int,int,int,int,int,int,int)",
        "int does(int,int,int,int,int,int,int)", "int believed(int,int,int)", "int image(int)", "int restore(int)",
        "int told(int)",
    };
    private static final Due DUE = new Due("FaceTest");

    public static void main(String[] args) {
        constants();
        methods();
        members();
        DUE.end();
    }

    private static void constants() {
        DUE.is("UNKNOWN", FallingGlass.UNKNOWN, -1);
        DUE.is("OUTSIDE", FallingGlass.OUTSIDE, -2);
        DUE.is("STATE", FallingGlass.STATE, -3);
        DUE.is("FULL", FallingGlass.FULL, -4);
        DUE.is("NO", FallingGlass.NO, -5);
        DUE.is("NONE", FallingGlass.NONE, -6);
        DUE.is("GONE", FallingGlass.GONE, -1000000000L);
        DUE.is("LOST", FallingGlass.LOST, -1000000000000000000L);
    }

    private static void methods() {
        Set<String> due = new TreeSet<>(Set.of(METHODS));
        Set<String> found = new TreeSet<>();
        for (Method method : FallingGlass.class.getDeclaredMethods()) {
            if (!Modifier.isPrivate(method.getModifiers())) {
                StringBuilder text = new StringBuilder(method.getReturnType() + " " + method.getName() + "(");
                for (Class<?> type : method.getParameterTypes()) {
                    text.append(text.charAt(text.length() - 1) == '(' ? "" : ",").append(type);
                }
                found.add(text + ")");
                holds(method.getName() + " is public", Modifier.isPublic(method.getModifiers()));
            }
        }
        holds("methods are as told, but " + found, found.equals(due));
    }

    private static void members() {
        holds("the class is final", Modifier.isFinal(FallingGlass.class.getModifiers()));
        Constructor<?>[] constructors = FallingGlass.class.getDeclaredConstructors();
        DUE.is("constructors", constructors.length, 1);
        holds("the constructor is public", Modifier.isPublic(constructors[0].getModifiers()));
        DUE.is("its parameters", constructors[0].getParameterCount(), 0);
        Set<String> names = new HashSet<>();
        for (Field field : FallingGlass.class.getDeclaredFields()) {
            if (!Modifier.isPrivate(field.getModifiers())) {
                names.add(field.getName());
            }
        }
        Set<String> due = Set.of("UNKNOWN", "OUTSIDE", "STATE", "FULL", "NO", "NONE", "GONE", "LOST");
        holds("constants are as told, but " + names, names.equals(due));
    }

    private static void holds(String what, boolean held) {
        DUE.is(what, held ? 1 : 0, 1);
    }
}
