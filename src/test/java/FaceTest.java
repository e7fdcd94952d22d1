import java.lang.reflect.Constructor;
import java.lang.reflect.Field;
import java.lang.reflect.Method;
import java.lang.reflect.Modifier;
import java.util.Arrays;
import java.util.Set;
import java.util.TreeSet;

/** The public face: nothing is missing, and nothing else can be seen from outside. */
public final class FaceTest {
    private static final String[] METHODS = {
        "int step(int) IllegalArgumentException IllegalStateException",
        "int scrap()",
        "int store() IllegalStateException",
        "int stored()",
        "int bid(int,int) IndexOutOfBoundsException IllegalArgumentException",
        "int alike(int) IndexOutOfBoundsException",
        "int parent(int,boolean) IndexOutOfBoundsException",
        "int join(int) IndexOutOfBoundsException IllegalStateException",
        "int leave(int) IndexOutOfBoundsException IllegalStateException",
        "boolean isIn(int) IndexOutOfBoundsException",
        "int forbid(int) IllegalArgumentException",
        "boolean allow(int) IllegalArgumentException",
        "int tell(int,int) IllegalArgumentException IllegalStateException",
        "int forget()",
        "int profit(int,int,int,int,int) IndexOutOfBoundsException IllegalArgumentException",
        "int worth(int,int) IndexOutOfBoundsException IllegalArgumentException IllegalStateException",
        "int worthByValues(int,int) IndexOutOfBoundsException IllegalArgumentException IllegalStateException",
        "int best(int) IllegalArgumentException",
        "int evolve(int) IllegalArgumentException IllegalStateException",
    };
    private static final String[] CONSTANTS = {
        "NONE=-1", "VALUE=10", "PLUS=11", "MINUS=12", "TIMES=13", "OVER=14", "LESSER=15", "GREATER=16",
        "FIRST=0", "SECOND=1", "MIDDLE=2", "ALL=3",
    };

    public static void main(String[] args) throws Exception {
        Checks checks = new Checks();
        checks.equal("modifiers of the class", Bidwhistle.class.getModifiers(), Modifier.PUBLIC | Modifier.FINAL);
        same(checks, "methods", methods(), METHODS);
        same(checks, "constants", constants(), CONSTANTS);
        Constructor<?>[] constructors = Bidwhistle.class.getDeclaredConstructors();
        checks.equal("constructors", constructors.length, 1);
        checks.isTrue("the constructor is public", Modifier.isPublic(constructors[0].getModifiers()));
        checks.equal("parameters of the constructor", constructors[0].getParameterCount(), 0);
        namesOfPrivates(checks);
        checks.end();
    }

    private static void same(Checks checks, String what, Set<String> got, String[] due) {
        checks.isTrue(what + " are " + got, got.equals(new TreeSet<String>(Arrays.asList(due))));
    }

    private static Set<String> methods() {
        Set<String> seen = new TreeSet<String>();
        for (Method method : Bidwhistle.class.getDeclaredMethods()) {
            if (Modifier.isPrivate(method.getModifiers())) {
                continue;
            }
            StringBuilder line = new StringBuilder();
            if (method.getModifiers() != Modifier.PUBLIC) {
                line.append(Modifier.toString(method.getModifiers())).append(' ');
            }
            line.append(method.getReturnType().getSimpleName()).append(' ').append(method.getName()).append('(');
            String comma = "";
            for (Class<?> type : method.getParameterTypes()) {
                line.append(comma).append(type.getSimpleName());
                comma = ",";
            }
            line.append(')');
            for (Class<?> type : method.getExceptionTypes()) {
                line.append(' ').append(type.getSimpleName());
            }
            seen.add(line.toString());
        }
        return seen;
    }

    private static Set<String> constants() throws Exception {
        Set<String> seen = new TreeSet<String>();
        for (Field field : Bidwhistle.class.getDeclaredFields()) {
            if (Modifier.isPrivate(field.getModifiers())) {
                continue;
            }
            boolean isConstant = field.getModifiers() == (Modifier.PUBLIC | Modifier.STATIC | Modifier.FINAL)
                    && field.getType() == int.class;
            seen.add(isConstant ? field.getName() + "=" + field.getInt(null) : field.toString());
        }
        return seen;
    }

    private static void namesOfPrivates(Checks checks) {
        Set<String> faces = new TreeSet<String>();
        for (Method method : Bidwhistle.class.getMethods()) {
            faces.add(method.getName());
        }
        for (Method method : Bidwhistle.class.getDeclaredMethods()) {
            if (Modifier.isPrivate(method.getModifiers())) {
                checks.isFalse(method + " bears the name of a public one", faces.contains(method.getName()));
            }
        }
    }
}
