import java.lang.reflect.Constructor;
import java.lang.reflect.Field;
import java.lang.reflect.Method;
import java.lang.reflect.Modifier;
import java.util.Set;
import java.util.TreeSet;

/** The public face is the document's, and nothing of the class itself shows beside it. */
public final class FaceTest {
    private static final String[] FACE = {
        "boolean start(int,long,int)", "boolean stop(int)", "boolean busy(int,boolean)", "int state(int)",
        "int address(int)", "int noted(int,int)", "boolean request(int)", "boolean send(int,int,int,int,long)",
        "int waiting()", "int identifier()", "long data()", "boolean deliver(boolean)", "boolean lose()",
        "int overflowed()", "int tick(int)", "int outgoing(int)", "int incoming(int)", "int delivered(int)",
        "int message(int,int)", "int byteOf(int,int)",
    };

    public static void main(String[] args) {
        Class<?> face = AddressClaimBus.class;
        Check.of("face");
        Check.due("public", Modifier.isPublic(face.getModifiers()), true);
        Check.due("final", Modifier.isFinal(face.getModifiers()), true);
        Constructor<?>[] constructors = face.getDeclaredConstructors();
        Check.due("constructors", constructors.length, 1);
        Check.due("its parameters", constructors[0].getParameterCount(), 0);
        Check.due("it is public", Modifier.isPublic(constructors[0].getModifiers()), true);
        methods(face);
        for (Field field : face.getDeclaredFields()) {
            Check.due("private " + field.getName(), Modifier.isPrivate(field.getModifiers()), true);
        }
        Check.end();
    }

    private static void methods(Class<?> face) {
        Set<String> due = new TreeSet<>(Set.of(FACE));
        Set<String> names = new TreeSet<>();
        for (Method method : face.getDeclaredMethods()) {
            if (Modifier.isPublic(method.getModifiers())) {
                Check.due("in the document: " + text(method), due.remove(text(method)), true);
                names.add(method.getName());
            }
        }
        Check.due("missing " + due, due.size(), 0);
        for (Method method : face.getDeclaredMethods()) {
            if (!Modifier.isPublic(method.getModifiers())) {
                Check.due("private " + method.getName(), Modifier.isPrivate(method.getModifiers()), true);
                Check.due("a name of its own " + method.getName(), names.contains(method.getName()), false);
            }
        }
    }

    private static String text(Method method) {
        StringBuilder text = new StringBuilder();
        text.append(method.getReturnType().getSimpleName()).append(' ').append(method.getName()).append('(');
        for (Class<?> parameter : method.getParameterTypes()) {
            text.append(text.charAt(text.length() - 1) == '(' ? "" : ",").append(parameter.getSimpleName());
        }
        return text.append(')').toString();
    }
}
