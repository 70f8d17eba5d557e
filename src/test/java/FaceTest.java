import java.lang.reflect.Constructor;
import java.lang.reflect.Field;
import java.lang.reflect.Method;
import java.lang.reflect.Modifier;
import java.util.Set;
import java.util.TreeSet;

/** The public face is the document's, and nothing else is seen from outside. */
public final class FaceTest {
    private static final Set<String> FACE = Set.of(
            "int degree(int,int)", "int source(int,int,int,int)", "int symbol(int,int,long)",
            "long row(int,int)", "long sumRow(int,int)", "long part(int,int)",
            "int frame(int,int)", "int frameByte(int)", "int poke(int,int)", "int sign()",
            "int take()", "int told(int,int)", "int taken(int,int)", "int isKnown(int,int)",
            "long known(int,int)", "int peeled(int,int)", "int image(int)", "int imageByte(int)",
            "int setByte(int,int)", "int cut(int)", "int resume(int)");

    public static void main(String[] args) {
        Class<?> face = FountainRows.class;
        Due.due("public final", face.getModifiers(), Modifier.PUBLIC | Modifier.FINAL);
        Set<String> seen = new TreeSet<>();
        for (Method method : face.getDeclaredMethods()) {
            if (!Modifier.isPrivate(method.getModifiers())) {
                Due.due(method + " is public alone", method.getModifiers(), Modifier.PUBLIC);
                seen.add(signature(method));
            }
        }
        Due.due("the methods " + seen, seen.equals(FACE) ? 1 : 0, 1);
        Constructor<?>[] constructors = face.getDeclaredConstructors();
        Due.due("constructors", constructors.length, 1);
        Due.due("its parameters", constructors[0].getParameterCount(), 0);
        Due.due("it is public", constructors[0].getModifiers(), Modifier.PUBLIC);
        for (Field field : face.getDeclaredFields()) {
            Due.due(field + " is private", Modifier.isPrivate(field.getModifiers()) ? 1 : 0, 1);
        }
        Due.end();
    }

    private static String signature(Method method) {
        StringBuilder text = new StringBuilder();
        text.append(method.getReturnType()).append(' ').append(method.getName()).append('(');
        for (Class<?> parameter : method.getParameterTypes()) {
            text.append(text.charAt(text.length() - 1) == '(' ? "" : ",").append(parameter);
        }
        return text.append(')').toString();
    }
}
