import java.lang.reflect.Constructor;
import java.lang.reflect.Field;
import java.lang.reflect.Member;
import java.lang.reflect.Method;
import java.lang.reflect.Modifier;
import java.util.HashSet;
import java.util.Set;
import java.util.TreeSet;

/** The class has the document's public face, and nothing more that can be seen from outside. */
public final class FaceTest {
    private static final Check CHECK = new Check("face");

    private static final String INDEX = " IndexOutOfBoundsException";
    private static final String ARGUMENT = " IllegalArgumentException";
    private static final String STATE = " IllegalStateException";

    private static final String[] METHODS = {
        "int setFaces(int)" + ARGUMENT,
        "int addDimension(int,int,int,int,int)" + INDEX + ARGUMENT + STATE,
        "int removeDimension(int)" + INDEX,
        "int setDeviations(int,int,int)" + INDEX + ARGUMENT,
        "int general(char)" + ARGUMENT,
        "int property(int,int)" + INDEX + ARGUMENT,
        "int dimensionCount()",
        "int append(int)" + ARGUMENT + STATE,
        "int clearInput()",
        "int firstError()",
        "int load()" + STATE,
        "boolean isDoubled(int)" + INDEX,
        "int missing()",
        "int partOf(int)" + INDEX,
        "int chainLength(int,int)" + INDEX,
        "int chainDimension(int,int,int)" + INDEX,
        "int gap(int,int,int)" + INDEX + ARGUMENT + STATE,
        "int spread(int,int)" + INDEX + STATE,
        "int contributor(int,int)" + INDEX + STATE,
        "double part(int,int,int)" + INDEX + STATE,
        "int misfit(int)" + INDEX + STATE,
        "int contradictions()",
        "boolean isConsistent()",
        "int tight(int,int,boolean)" + INDEX + STATE,
        "int transfer(int,int)" + INDEX + ARGUMENT + STATE,
        "int distribute(int,int,int)" + INDEX + ARGUMENT + STATE,
        "long digest()"
    };

    public static void main(String[] args) {
        Class<?> face = DimensionChecker.class;
        CHECK.compare("final", true, Modifier.isFinal(face.getModifiers()));
        CHECK.compare("NONE", -1, DimensionChecker.NONE);
        methods(face);
        for (Field field : face.getDeclaredFields()) {
            CHECK.compare(field.getName() + " seen", field.getName().equals("NONE"), seen(field));
        }
        Constructor<?>[] constructors = face.getDeclaredConstructors();
        CHECK.compare("constructors", 1, constructors.length);
        CHECK.compare("its parameters", 0, constructors[0].getParameterCount());
        CHECK.compare("its publicness", true, Modifier.isPublic(constructors[0].getModifiers()));
        CHECK.end();
    }

    private static void methods(Class<?> face) {
        Set<String> want = new TreeSet<>(Set.of(METHODS));
        Set<String> got = new TreeSet<>();
        Set<String> names = new HashSet<>();
        for (Method method : face.getDeclaredMethods()) {
            if (seen(method)) {
                got.add(signature(method));
                names.add(method.getName());
            }
        }
        CHECK.compare("public methods", want, got);
        for (Class<?> inside : face.getDeclaredClasses()) {
            CHECK.compare(inside + " static", true, Modifier.isStatic(inside.getModifiers()));
            noneNamed(names, inside);
        }
        for (Method method : face.getDeclaredMethods()) {
            if (!seen(method)) {
                CHECK.compare(method + " named apart", false, names.contains(method.getName()));
            }
        }
    }

    private static void noneNamed(Set<String> names, Class<?> inside) {
        for (Method method : inside.getDeclaredMethods()) {
            CHECK.compare(method + " named apart", false, names.contains(method.getName()));
        }
    }

    private static boolean seen(Member member) {
        return !Modifier.isPrivate(member.getModifiers()) && !member.isSynthetic();
    }

    /** With the exceptions of its throws clause, in their order. */
    private static String signature(Method method) {
        StringBuilder text = new StringBuilder();
        text.append(method.getReturnType()).append(' ').append(method.getName()).append('(');
        for (Class<?> kind : method.getParameterTypes()) {
            text.append(text.charAt(text.length() - 1) == '(' ? "" : ",").append(kind);
        }
        text.append(')');
        for (Class<?> kind : method.getExceptionTypes()) {
            text.append(' ').append(kind.getSimpleName());
        }
        return text.toString();
    }
}
