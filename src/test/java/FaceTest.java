import java.lang.reflect.Constructor;
import java.lang.reflect.Field;
import java.lang.reflect.Method;
import java.lang.reflect.Modifier;
import java.util.Arrays;
import java.util.Set;
import java.util.TreeSet;

/**
 * The face of the class is the document's, no more and no less, the constants are as told, and what
 * is inside keeps to the sizes and names of LANGUAGE.md.
 */
public final class FaceTest {
    private static final String[] FACE = {
        "int feed(int)", "int head()", "int line()", "int sample(int)", "int type(int,int)",
        "int key(int)", "int column(int,int)", "int of(int,int)", "int votes(int,int)", "int run(int)",
        "int reset()", "int fault(int,int)", "int told(int)", "long value(int,int)",
        "int shown(int,int,int)", "long feature(int,int)", "int would(int,int)", "int need(int,int)",
        "int see(int,boolean)", "int fits(int)", "long odds(int)", "long mean(int,int)",
        "int plan(int,int)", "int ends(int)", "int book(int,int)", "int looked()",
        "int judge(int,int,int)", "int image()", "int undo()", "int taken(int,int,int)",
        "int count(int)", "int tape(int,int,int)", "int item(int,int,long)", "long read(int,int)",
        "int shift(int,int,int,int,int)"};
    private static final String[] CONSTANTS = {"NONE", "BAD", "STATE", "FULL", "NO"};

    private static final int MOST_PARAMETERS = 7, MOST_FIELDS = 20;

    public static void main(String[] args) {
        Class<?> face = FeatureImport.class;
        same("class", Set.of(Modifier.toString(face.getModifiers())), Set.of("public final"));
        Set<String> methods = new TreeSet<>();
        for (Method method : face.getDeclaredMethods()) {
            if (!Modifier.isPrivate(method.getModifiers())) methods.add(asText(method));
        }
        same("methods", methods, Set.of(FACE));
        for (Class<?> any : FeatureImport.class.getNestMembers()) insideOf(any);
        Set<String> constants = new TreeSet<>();
        for (Field field : face.getDeclaredFields()) {
            if (!Modifier.isPrivate(field.getModifiers())) constants.add(field.getName());
        }
        same("constants", constants, Set.of(CONSTANTS));
        Constructor<?>[] constructors = face.getDeclaredConstructors();
        Due.is("constructors", constructors.length, 1);
        Due.is("NONE", FeatureImport.NONE, -1);
        Due.is("BAD", FeatureImport.BAD, -2);
        Due.is("STATE", FeatureImport.STATE, -3);
        Due.is("FULL", FeatureImport.FULL, -4);
        Due.is("NO", FeatureImport.NO, Long.MIN_VALUE);
        Due.end();
    }

    /** LANGUAGE.md, rules 1, 2 and 11, for the class itself and for those inside it. */
    private static void insideOf(Class<?> any) {
        Set<String> publicNames = new TreeSet<>();
        for (String method : FACE) publicNames.add(method.replaceAll(".* |\\(.*", ""));
        for (Method method : any.getDeclaredMethods()) {
            boolean isPublic = Modifier.isPublic(method.getModifiers());
            if (!isPublic && publicNames.contains(method.getName())) {
                Due.fail(any.getName() + "." + method.getName() + " bears a public name");
            }
            if (method.getParameterCount() > MOST_PARAMETERS) {
                Due.fail(any.getName() + "." + method.getName() + " takes too many parameters");
            }
        }
        int fields = 0;
        for (Field field : any.getDeclaredFields()) {
            boolean isStatic = Modifier.isStatic(field.getModifiers());
            if (isStatic && !Modifier.isFinal(field.getModifiers())) {
                Due.fail(any.getName() + "." + field.getName() + " is static, and not final");
            }
            if (!isStatic) fields++;
        }
        if (fields > MOST_FIELDS) Due.fail(any.getName() + " has " + fields + " fields");
        boolean isStaticInside = any == FeatureImport.class || Modifier.isStatic(any.getModifiers());
        if (!isStaticInside) Due.fail(any.getName() + " is not static");
    }

    private static String asText(Method method) {
        String types = Arrays.toString(method.getParameterTypes());
        return method.getReturnType() + " " + method.getName()
            + types.replace("[", "(").replace("]", ")").replace(" ", "");
    }

    private static void same(String what, Set<String> got, Set<String> want) {
        if (!got.equals(want)) Due.fail(what + " are " + got + ", due are " + want);
    }
}
