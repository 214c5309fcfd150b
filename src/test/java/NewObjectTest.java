import java.lang.reflect.Constructor;
import java.lang.reflect.Field;
import java.lang.reflect.Method;
import java.lang.reflect.Modifier;
import java.util.Set;
import java.util.TreeSet;

/** Promise 1, and the public face. */
public final class NewObjectTest {
    private static final Due DUE = new Due();

    public static void main(String[] args) {
        bothEndsAreClosed();
        nothingIsOnTheWay();
        constantsAreAsTold();
        faceIsAsTold();
        DUE.finish();
    }

    private static void bothEndsAreClosed() {
        TransportFour x = new TransportFour();
        DUE.told(x, 0, 0, 0, 0, 0, 0, 6, 0, 0, 0, -1);
        DUE.told(x, 1, 0, 0, 0, 0, 0, 6, 0, 0, 0, -1);
        DUE.is("clock", x.clock(), 0);
    }

    private static void nothingIsOnTheWay() {
        TransportFour x = new TransportFour();
        DUE.is("sent", x.sent(), 0);
        DUE.is("byteOf", x.byteOf(0, 0), Due.BAD);
        Due.pass(x, 100);
        DUE.is("sent later", x.sent(), 0);
        DUE.told(x, 0, 0, 0);
        DUE.told(x, 1, 0, 0);
    }

    private static void constantsAreAsTold() {
        DUE.is("BAD", TransportFour.BAD, -1);
        DUE.is("NO", TransportFour.NO, -2);
        DUE.is("FULL", TransportFour.FULL, -3);
    }

    private static void faceIsAsTold() {
        Set<String> wanted = new TreeSet<>(Set.of(
                "BAD", "NO", "FULL", "call(int)", "type(long,int)", "send(int)", "urge(int,int)", "end(int)",
                "take(int)", "read(int,int)", "urgent(int)", "fault(int,int,int,int)", "tick(int)",
                "told(int,int)", "sent()", "byteOf(int,int)", "clock()"));
        Set<String> publicNames = new TreeSet<>();
        for (Field field : TransportFour.class.getDeclaredFields()) {
            if (!Modifier.isPrivate(field.getModifiers())) {
                publicNames.add(field.getName());
            }
        }
        for (Method method : TransportFour.class.getDeclaredMethods()) {
            if (!Modifier.isPrivate(method.getModifiers())) {
                String types = java.util.Arrays.toString(method.getParameterTypes());
                publicNames.add(method.getName() + types.replace('[', '(').replace(']', ')').replace(" ", ""));
                DUE.is("result of " + method.getName(), method.getReturnType() == int.class ? 1 : 0, 1);
            }
        }
        DUE.is("face " + publicNames, publicNames.equals(wanted) ? 1 : 0, 1);
        Constructor<?>[] makers = TransportFour.class.getDeclaredConstructors();
        DUE.is("constructors", makers.length, 1);
        DUE.is("constructor's arguments", makers[0].getParameterCount(), 0);
        DUE.is("constructor is public", Modifier.isPublic(makers[0].getModifiers()) ? 1 : 0, 1);
        DUE.is("class is final", Modifier.isFinal(TransportFour.class.getModifiers()) ? 1 : 0, 1);
    }
}
