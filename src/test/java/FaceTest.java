import java.lang.reflect.Constructor;
import java.lang.reflect.Field;
import java.lang.reflect.Member;
import java.lang.reflect.Method;
import java.lang.reflect.Modifier;
import java.util.Arrays;
import java.util.HashSet;
import java.util.Set;
import java.util.TreeSet;

/** The face of the class is just that of the document. */
public final class FaceTest {
    private static final String[] FACE = {
        "int append(int, int, int, int, int)", "int clearTape()", "int errorPosition()", "int read(int)",
        "int example(int)", "int places(int)", "int placeAt(int, int, int)", "int next(int, int, int)",
        "int roles(int)", "boolean areAlike(int, int)", "int cut(int)", "int why(int, int)",
        "int part(int, int, int)", "int mirror(int, int)", "int roleOf(int)", "int states(int)",
        "int stateAt(int, int, int)", "int step(int, int, int)", "boolean isBelow(int, int)",
        "int shows(int, int)", "int showsAt(int, int, int)", "boolean fit(int, int)", "int begin(int, int)",
        "int put(int)", "int send(int, int)", "int hear(int)", "int stateOf(int)", "int queue(int, int)",
        "int queueAt(int, int, int)", "int stands()", "int sent()", "int all(int, int)",
        "int ringAt(int, int)", "int least()", "long rows(int, int)", "int back(int)",
        "boolean letter(int, int, int)", "int blame(int)", "int image(int)", "int restore(int)",
        "int checksum()", "double meanKinds()", "float cutShare()", "int errors()"
    };

    public static void main(String[] args) {
        Class<?> face = Handshakewarden.class;
        Check.due("public and final", Modifier.PUBLIC | Modifier.FINAL, face.getModifiers());
        Check.due("no package", "", face.getPackageName());
        methods(face);
        Constructor<?>[] constructors = face.getDeclaredConstructors();
        Check.due("one constructor", 1, constructors.length);
        Check.due("public", Modifier.PUBLIC, constructors[0].getModifiers());
        Check.due("without parameters", 0, constructors[0].getParameterCount());
        Check.due("NONE", -1, Handshakewarden.NONE);
        fields(face);
        for (Class<?> inside : face.getDeclaredClasses()) {
            Check.due(inside.getName() + " is private", true, Modifier.isPrivate(inside.getModifiers()));
            Check.due(inside.getName() + " is static", true, Modifier.isStatic(inside.getModifiers()));
            names(inside);
        }
        names(face);
        Check.end("FaceTest");
    }

    private static String told(Method method) {
        String parameters = Arrays.toString(method.getParameterTypes());
        return method.getReturnType() + " " + method.getName() + "("
                + parameters.substring(1, parameters.length() - 1) + ")";
    }

    private static void methods(Class<?> face) {
        Set<String> found = new TreeSet<>();
        for (Method method : face.getDeclaredMethods()) {
            if (!Modifier.isPrivate(method.getModifiers()) && !method.isSynthetic()) {
                found.add(told(method));
                Check.due(method.getName() + " is public", Modifier.PUBLIC, method.getModifiers());
            }
        }
        Check.due("methods", new TreeSet<>(Arrays.asList(FACE)), found);
    }

    private static void fields(Class<?> face) {
        for (Field field : face.getDeclaredFields()) {
            boolean none = field.getName().equals("NONE");
            Check.due(field.getName(), none, !Modifier.isPrivate(field.getModifiers()));
            Check.due("static means final: " + field.getName(), true,
                    !Modifier.isStatic(field.getModifiers()) || Modifier.isFinal(field.getModifiers()));
        }
    }

    /** No method that is not public bears the name of a public one of the face. */
    private static void names(Class<?> one) {
        Set<String> names = new HashSet<>();
        for (String method : FACE) {
            names.add(method.substring(method.indexOf(' ') + 1, method.indexOf('(')));
        }
        for (Member method : one.getDeclaredMethods()) {
            boolean isFace = one == Handshakewarden.class && Modifier.isPublic(method.getModifiers());
            Check.due(one.getName() + "." + method.getName(), isFace, names.contains(method.getName()));
        }
    }
}
