import java.lang.reflect.Constructor;
import java.lang.reflect.Field;
import java.lang.reflect.Method;
import java.lang.reflect.Modifier;
import java.util.ArrayList;
import java.util.Arrays;
import java.util.Collections;
import java.util.List;

/** The public face is the document's, and nothing else can be seen from outside. */
public final class FaceTest {
    private static final String[] FACE = {
        "int make(int,int) IllegalArgumentException IllegalStateException",
        "int grow(int) IndexOutOfBoundsException IllegalStateException",
        "int move(int) IndexOutOfBoundsException IllegalStateException",
        "int throwAway(int) IndexOutOfBoundsException IllegalStateException",
        "int files()",
        "int free()",
        "int number(int,int) IndexOutOfBoundsException IllegalArgumentException",
        "int fileOf(int) IndexOutOfBoundsException",
        "int clusters(int) IndexOutOfBoundsException",
        "int clusterAt(int,int) IndexOutOfBoundsException IllegalArgumentException IllegalStateException",
        "int checksum(int) IndexOutOfBoundsException",
        "int claimed(int) IndexOutOfBoundsException IllegalStateException",
        "int claimAt(int,int) IndexOutOfBoundsException IllegalArgumentException IllegalStateException",
        "int confidence(int) IndexOutOfBoundsException IllegalStateException",
        "int ownerOf(int) IndexOutOfBoundsException",
        "int owned(int) IndexOutOfBoundsException IllegalStateException",
        "int sure()",
        "boolean hasJoin(int) IndexOutOfBoundsException IllegalStateException",
        "int joinAt(int,int) IndexOutOfBoundsException IllegalArgumentException IllegalStateException",
    };

    public static void main(String[] args) {
        Check check = new Check();
        Class<GraveyardReader> type = GraveyardReader.class;
        check.due("public final", true, type.getModifiers() == (Modifier.PUBLIC | Modifier.FINAL));
        check.due("NONE", -1, () -> GraveyardReader.NONE);
        theMethods(check, type);
        theRest(check, type);
        check.end();
    }

    private static void theMethods(Check check, Class<?> type) {
        List<String> publics = new ArrayList<>();
        List<String> publicNames = new ArrayList<>();
        for (Method method : type.getDeclaredMethods()) {
            if (!Modifier.isPrivate(method.getModifiers())) {
                publics.add(told(method));
                publicNames.add(method.getName());
                check.due(method + " is public and of the object", true, method.getModifiers() == Modifier.PUBLIC);
            }
        }
        List<String> wanted = new ArrayList<>(Arrays.asList(FACE));
        Collections.sort(wanted);
        Collections.sort(publics);
        if (!wanted.equals(publics)) {
            check.complain("the methods are " + publics + ", due are " + wanted);
        }
        for (Method method : type.getDeclaredMethods()) {
            boolean secret = Modifier.isPrivate(method.getModifiers());
            check.due("private " + method.getName() + " has a public name", false,
                    secret && publicNames.contains(method.getName()));
        }
    }

    private static void theRest(Check check, Class<?> type) {
        Constructor<?>[] constructors = type.getDeclaredConstructors();
        check.due("constructors", 1, () -> constructors.length);
        check.due("constructor is public without arguments", true,
                constructors[0].getModifiers() == Modifier.PUBLIC && constructors[0].getParameterCount() == 0);
        for (Field field : type.getDeclaredFields()) {
            int signs = field.getModifiers();
            check.due(field + " is private, or NONE", true,
                    field.getName().equals("NONE") ? Modifier.isPublic(signs) : Modifier.isPrivate(signs));
            check.due(field + " is static and not final", false, Modifier.isStatic(signs) && !Modifier.isFinal(signs));
        }
    }

    private static String told(Method method) {
        StringBuilder text = new StringBuilder();
        text.append(method.getReturnType().getSimpleName()).append(' ').append(method.getName()).append('(');
        Class<?>[] parameters = method.getParameterTypes();
        for (int i = 0; i < parameters.length; i++) {
            text.append(i == 0 ? "" : ",").append(parameters[i].getSimpleName());
        }
        text.append(')');
        for (Class<?> thrown : method.getExceptionTypes()) {
            text.append(' ').append(thrown.getSimpleName());
        }
        return text.toString();
    }
}
