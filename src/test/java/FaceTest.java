import java.lang.reflect.Constructor;
import java.lang.reflect.Field;
import java.lang.reflect.Method;
import java.lang.reflect.Modifier;
import java.util.Arrays;
import java.util.Set;
import java.util.TreeSet;

/** The face of the class is the document's, no more and no less, and the constants are as told. */
public final class FaceTest {
    private static final String[] FACE = {
        "int feed(int)", "int head()", "int line()", "int sample(int)", "int type(int,int)",
        "int key(int)", "int column(int,int)", "int of(int,int)", "int votes(int,int)", "int run(int)",
        "int reset()", "int fault(int,int)", "int told(int)", "long value(int,int)",
        "int shown(int,int,int)", "long feature(int,int)", "int would(int,int)", "int need(int,int)",
        "int see(int,boolean)", "int fits(int)", "long odds(int)", "long mean(int,int)",
        "int plan(int,int)", "int ends(int)", "int book(int,int)", "int looked()",
        "int judge(int,int,int)", "int image()", "int undo()", "int taken(int,int,int)",
        "int count(int)", "int tape(int,int,int)", "int item(int,int,long)", "long read(int,int)",
        "int shift(int,int,int,int,int)"};
    private static final String[] CONSTANTS = {"NONE", "BAD", "STATE", "FULL", "NO"};

    public static void main(String[] args) {
        Class<?> face = FeatureImport.class;
        same("class", Set.of(Modifier.toString(face.getModifiers())), Set.of("public final"));
        Set<String> methods = new TreeSet<>();
        for (Method method : face.getDeclaredMethods()) {
            if (!Modifier.isPrivate(method.getModifiers())) methods.add(asText(method));
        }
        same("methods", methods, Set.of(FACE));
        Set<String> constants = new TreeSet<>();
        for (Field field : face.getDeclaredFields()) {
            if (!Modifier.isPrivate(field.getModifiers())) constants.add(field.getName());
        }
        same("constants", constants, Set.of(CONSTANTS));
        Constructor<?>[] constructors = face.getDeclaredConstructors();
        Due.is("constructors", constructors.length, 1);
        Due.is("NONE", FeatureImport.NONE, -1);
        Due.is("BAD", FeatureImport.BAD, -2);
        Due.is("STATE", FeatureImport.STATE, -3);
        Due.is("FULL", FeatureImport.FULL, -4);
        Due.is("NO", FeatureImport.NO, Long.MIN_VALUE);
        Due.end();
    }

    private static String asText(Method method) {
        String types = Arrays.toString(method.getParameterTypes());
        return method.getReturnType() + " " + method.getName()
            + types.replace("[", "(").replace("]", ")").replace(" ", "");
    }

    private static void same(String what, Set<String> got, Set<String> want) {
        if (!got.equals(want)) Due.fail(what + " are " + got + ", due are " + want);
    }
}
