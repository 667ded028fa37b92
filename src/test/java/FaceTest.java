import java.lang.reflect.Constructor;
import java.lang.reflect.Field;
import java.lang.reflect.Member;
import java.lang.reflect.Method;
import java.lang.reflect.Modifier;
import java.util.HashSet;
import java.util.Set;
import java.util.TreeSet;

/** The class has the document's public face, and nothing more that can be seen from outside. */
public final class FaceTest {
    private static final Check CHECK = new Check("face");

    private static final String[] METHODS = {
        "int setFaces(int)", "int addDimension(int,int,int,int,int)", "int removeDimension(int)",
        "int setDeviations(int,int,int)", "int general(char)", "int property(int,int)",
        "int dimensionCount()", "int append(int)", "int clearInput()", "int firstError()",
        "int load()", "boolean isDoubled(int)", "int missing()", "int partOf(int)",
        "int chainLength(int,int)", "int chainDimension(int,int,int)", "int gap(int,int,int)",
        "int spread(int,int)", "int contributor(int,int)", "double part(int,int,int)",
        "int misfit(int)", "int contradictions()", "boolean isConsistent()",
        "int tight(int,int,boolean)", "int transfer(int,int)", "int distribute(int,int,int)",
        "long digest()"
    };

    public static void main(String[] args) {
        Class<?> face = DimensionChecker.class;
        CHECK.compare("final", true, Modifier.isFinal(face.getModifiers()));
        CHECK.compare("NONE", -1, DimensionChecker.NONE);
        methods(face);
        for (Field field : face.getDeclaredFields()) {
            CHECK.compare(field.getName() + " seen", field.getName().equals("NONE"), seen(field));
        }
        Constructor<?>[] constructors = face.getDeclaredConstructors();
        CHECK.compare("constructors", 1, constructors.length);
        CHECK.compare("its parameters", 0, constructors[0].getParameterCount());
        CHECK.compare("its publicness", true, Modifier.isPublic(constructors[0].getModifiers()));
        CHECK.end();
    }

    private static void methods(Class<?> face) {
        Set<String> want = new TreeSet<>(Set.of(METHODS));
        Set<String> got = new TreeSet<>();
        Set<String> names = new HashSet<>();
        for (Method method : face.getDeclaredMethods()) {
            if (seen(method)) {
                got.add(signature(method));
                names.add(method.getName());
            }
        }
        CHECK.compare("public methods", want, got);
        for (Class<?> inside : face.getDeclaredClasses()) {
            CHECK.compare(inside + " static", true, Modifier.isStatic(inside.getModifiers()));
            noneNamed(names, inside);
        }
        for (Method method : face.getDeclaredMethods()) {
            if (!seen(method)) {
                CHECK.compare(method + " named apart", false, names.contains(method.getName()));
            }
        }
    }

    private static void noneNamed(Set<String> names, Class<?> inside) {
        for (Method method : inside.getDeclaredMethods()) {
            CHECK.compare(method + " named apart", false, names.contains(method.getName()));
        }
    }

    private static boolean seen(Member member) {
        return !Modifier.isPrivate(member.getModifiers()) && !member.isSynthetic();
    }

    private static String signature(Method method) {
        StringBuilder text = new StringBuilder();
        text.append(method.getReturnType()).append(' ').append(method.getName()).append('(');
        for (Class<?> kind : method.getParameterTypes()) {
            text.append(text.charAt(text.length() - 1) == '(' ? "" : ",").append(kind);
        }
        return text.append(')').toString();
    }
}
