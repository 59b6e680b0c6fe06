import java.lang.reflect.Constructor;
import java.lang.reflect.Field;
import java.lang.reflect.Method;
import java.lang.reflect.Modifier;
import java.util.Arrays;
import java.util.Set;
import java.util.TreeSet;

/** The face of the class is the document's, to the letter, and nothing else. */
public final class FaceTest {
    private static final Check C = new Check();

    private static final String[] METHODS = {
        "int line(int,int,int,int) IAS", "int switchLine(int,boolean) IS", "boolean storm(int) I",
        "int permit(int,int,int) IAS", "int giveBack(int) IS", "int stateOf(int) I", "float heat(int) I",
        "int flow(int) I", "int flowAnew(int) I", "int island(int) I", "int price(int) I",
        "int plant(int,int,int,int,boolean) IAS", "int start(int) IS", "int stop(int) I", "int plantState(int) I",
        "int base(int) I", "int offer(int,int,int) IAS", "int withdraw(int) I", "int clear(int) A", "int missing() ",
        "int scheduled(int) I", "int reserve(int,int,int,int) IAS", "int left(int,int) IA", "int feeder(int,int) IAS",
        "int setDemand(int,int) IA", "boolean isShed(int) I", "int wheel(int) IS", "int wind(int,boolean,int) IA",
        "int store(int,int,int,int) IAS", "int level(int) I", "int amount(int,int) IA", "int pass(int) AS",
        "int minute() ", "boolean breakMeter(int,boolean) I", "int reading(int,int) I", "int correct(int,int,int) IAS",
        "long bill(int,int,int) IA", "long open(int) I"
    };
    private static final String[] CONSTANTS = {
        "NONE -1", "IN 0", "TRIPPED 1", "DEAD 2", "OFF 0", "STARTING 1", "ON 2", "FEEDER 0", "PLANT 1", "WHEEL 2",
        "STORE 3"
    };

    private FaceTest() { }

    public static void main(String[] args) throws IllegalAccessException {
        Class<?> face = CopperDispatch.class;
        C.due(Modifier.PUBLIC | Modifier.FINAL, face::getModifiers);
        C.due("", () -> face.getPackageName());
        methods(face);
        fields(face);
        Constructor<?>[] constructors = face.getDeclaredConstructors();
        C.due(1, () -> constructors.length);
        C.due(0, () -> constructors[0].getParameterCount());
        C.due(0, () -> constructors[0].getExceptionTypes().length);
        C.due(Modifier.PUBLIC, () -> constructors[0].getModifiers());
        C.due(true, () -> face.getDeclaredClasses().length <= 11);
        for (Class<?> inner : face.getDeclaredClasses()) {
            C.due(inner.getName() + true, () -> inner.getName() + Modifier.isStatic(inner.getModifiers()));
            C.due(inner.getName() + true, () -> inner.getName() + Modifier.isPrivate(inner.getModifiers()));
        }
        C.end();
    }

    private static void methods(Class<?> face) {
        Set<String> due = new TreeSet<>(Arrays.asList(METHODS));
        Set<String> is = new TreeSet<>();
        Set<String> names = new TreeSet<>();
        for (Method method : face.getDeclaredMethods()) {
            if (!Modifier.isPrivate(method.getModifiers())) {
                is.add(told(method));
                names.add(method.getName());
                C.due(method.getName() + Modifier.PUBLIC, () -> method.getName() + method.getModifiers());
            }
        }
        C.due(due.toString(), is::toString);
        for (Method method : face.getDeclaredMethods()) {
            if (Modifier.isPrivate(method.getModifiers())) {
                C.due(method.getName() + false, () -> method.getName() + names.contains(method.getName()));
            }
        }
    }

    private static String told(Method method) {
        StringBuilder told = new StringBuilder();
        told.append(method.getReturnType()).append(' ').append(method.getName()).append('(');
        for (int k = 0; k < method.getParameterCount(); k++) {
            told.append(k == 0 ? "" : ",").append(method.getParameterTypes()[k]);
        }
        told.append(") ");
        for (Class<?> thrown : method.getExceptionTypes()) {
            told.append(thrown == IndexOutOfBoundsException.class ? "I"
                : thrown == IllegalArgumentException.class ? "A" : thrown == IllegalStateException.class ? "S" : "?");
        }
        return told.toString();
    }

    private static void fields(Class<?> face) throws IllegalAccessException {
        Set<String> is = new TreeSet<>();
        for (Field field : face.getDeclaredFields()) {
            if (!Modifier.isPrivate(field.getModifiers())) {
                is.add(field.getName() + " " + field.getInt(null));
                C.due(field.getName() + (Modifier.PUBLIC | Modifier.STATIC | Modifier.FINAL),
                    () -> field.getName() + field.getModifiers());
            }
        }
        C.due(new TreeSet<>(Arrays.asList(CONSTANTS)).toString(), is::toString);
    }
}
