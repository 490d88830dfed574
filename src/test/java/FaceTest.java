import java.lang.reflect.Constructor;
import java.lang.reflect.Field;
import java.lang.reflect.Method;
import java.lang.reflect.Modifier;
import java.util.Arrays;
import java.util.HashSet;
import java.util.Set;
import java.util.TreeSet;

/** The face is the document's and no other (rules 1 and 5 of LANGUAGE.md). */
public final class FaceTest {
    private static final String ARG = "IllegalArgumentException";
    private static final String STATE = "IllegalStateException";
    private static final String INDEX = "IndexOutOfBoundsException";

    private static final String[] FACE = {
        "int wind(int,int,int) " + ARG,
        "int hang(int,int) " + ARG,
        "int twin(int,int) " + ARG + " " + STATE,
        "void mark(int,int,long) " + ARG + " " + STATE + " " + INDEX,
        "boolean paste(int,int,int,boolean) " + ARG + " " + STATE + " " + INDEX,
        "boolean pull(int,int) " + ARG + " " + STATE + " " + INDEX,
        "int splice(int,int,int,int,int) " + ARG + " " + STATE,
        "int step(int,int,int,int,int) " + ARG + " " + STATE,
        "int play(boolean) " + STATE,
        "int sweep()",
        "int grind() " + STATE,
        "long frame(int,int) " + ARG + " " + STATE + " " + INDEX,
        "int look(int,int) " + ARG,
        "long sum(int) " + ARG,
        "int count(int) " + ARG,
    };

    public static void main(String[] args) {
        Due due = new Due();
        Class<?> room = SpliceRoom.class;
        due.is("public final class", Modifier.PUBLIC | Modifier.FINAL, room.getModifiers());
        checkMethods(due, room);
        checkConstructors(due, room);
        checkFields(due, room);
        for (Class<?> inside : room.getDeclaredClasses()) {
            checkFields(due, inside);
        }
        due.end("FaceTest");
    }

    private static void checkMethods(Due due, Class<?> room) {
        Set<String> open = new TreeSet<>();
        Set<String> openNames = new HashSet<>();
        for (Method m : room.getDeclaredMethods()) {
            if (!Modifier.isPrivate(m.getModifiers())) {
                due.is("modifiers of " + m, Modifier.PUBLIC, m.getModifiers());
                open.add(told(m));
                openNames.add(m.getName());
            }
        }
        due.same("the open methods", new TreeSet<>(Arrays.asList(FACE)), open);
        for (Method m : room.getDeclaredMethods()) {
            boolean closed = Modifier.isPrivate(m.getModifiers());
            due.is("a public name for " + m, false, closed && openNames.contains(m.getName()));
        }
    }

    private static String told(Method m) {
        StringBuilder text = new StringBuilder(m.getReturnType().getSimpleName());
        text.append(' ').append(m.getName()).append('(');
        String comma = "";
        for (Class<?> type : m.getParameterTypes()) {
            text.append(comma).append(type.getSimpleName());
            comma = ",";
        }
        text.append(')');
        for (Class<?> type : m.getExceptionTypes()) {
            text.append(' ').append(type.getSimpleName());
        }
        return text.toString();
    }

    private static void checkConstructors(Due due, Class<?> room) {
        Constructor<?>[] all = room.getDeclaredConstructors();
        due.is("number of constructors", 1, all.length);
        due.is("parameters of the constructor", 0, all[0].getParameterCount());
        due.is("modifiers of the constructor", Modifier.PUBLIC, all[0].getModifiers());
    }

    private static void checkFields(Due due, Class<?> type) {
        for (Field f : type.getDeclaredFields()) {
            int modifiers = f.getModifiers();
            due.is("private is " + f, true, Modifier.isPrivate(modifiers));
            due.is("final if static is " + f, true,
                    !Modifier.isStatic(modifiers) || Modifier.isFinal(modifiers));
        }
    }
}
