import java.lang.reflect.Constructor;
import java.lang.reflect.Field;
import java.lang.reflect.Method;
import java.lang.reflect.Modifier;
import java.util.ArrayList;
import java.util.Arrays;
import java.util.List;

/** The public face, as the document has it, and nothing beside it; and the dearest calls, 512 of them. */
final class FaceTest {
    private static final String INDEX = "IndexOutOfBoundsException";
    private static final String ARGUMENT = "IllegalArgumentException";
    private static final String STATE = "IllegalStateException";

    private static final String[] FACE = {
        "int word(int,int,int,int,boolean) " + ARGUMENT + " " + STATE,
        "int about(int,int) " + INDEX,
        "int line(int,int,int) " + ARGUMENT + " " + STATE,
        "int write(int,int,int) " + INDEX + " " + STATE,
        "int strike(int) " + INDEX + " " + STATE,
        "int written(int,int) " + INDEX,
        "int told(int,int) " + INDEX,
        "int stress(int,int) " + INDEX,
        "int melted(int) " + INDEX,
        "int rhyme(int,int) " + INDEX,
        "int scans(int) " + INDEX,
        "int count(int) " + INDEX,
        "int tries(int,int,int) " + INDEX,
        "int best(int,int) " + INDEX,
        "int worst()",
        "double mean()",
        "long digest()",
    };

    private FaceTest() {
    }

    public static void main(String[] args) {
        classAndConstructor();
        methods();
        members();
        dearestCalls();
        Check.end();
    }

    private static void classAndConstructor() {
        Check.holds("public and final", RhymeTax.class.getModifiers() == (Modifier.PUBLIC | Modifier.FINAL));
        Constructor<?>[] all = RhymeTax.class.getDeclaredConstructors();
        Check.same("constructors", all.length, 1);
        Check.holds("public RhymeTax()", Modifier.isPublic(all[0].getModifiers()) && all[0].getParameterCount() == 0);
    }

    private static void methods() {
        List<String> due = new ArrayList<>(Arrays.asList(FACE));
        List<String> names = new ArrayList<>();
        for (Method method : RhymeTax.class.getDeclaredMethods()) {
            if (Modifier.isPublic(method.getModifiers())) {
                Check.holds(told(method) + " is of the face", due.remove(told(method)));
                Check.holds("not static", !Modifier.isStatic(method.getModifiers()));
                names.add(method.getName());
            }
        }
        Check.holds("not there: " + due, due.isEmpty());
        for (Method method : RhymeTax.class.getDeclaredMethods()) {
            Check.holds("private, or public: " + method, Modifier.isPublic(method.getModifiers())
                    || Modifier.isPrivate(method.getModifiers()) && !names.contains(method.getName()));
        }
    }

    private static String told(Method method) {
        StringBuilder text = new StringBuilder(method.getReturnType().getName()).append(' ').append(method.getName());
        String separator = "(";
        for (Class<?> type : method.getParameterTypes()) {
            text.append(separator).append(type.getName());
            separator = ",";
        }
        text.append(method.getParameterCount() == 0 ? "()" : ")");
        for (Class<?> type : method.getExceptionTypes()) {
            text.append(' ').append(type.getSimpleName());
        }
        return text.toString();
    }

    private static void members() {
        for (Field field : RhymeTax.class.getDeclaredFields()) {
            Check.holds("private: " + field, Modifier.isPrivate(field.getModifiers()));
            Check.holds("final if static: " + field,
                    !Modifier.isStatic(field.getModifiers()) || Modifier.isFinal(field.getModifiers()));
        }
    }

    private static void dearestCalls() {
        RhymeTax x = new RhymeTax();
        int calls = 0;
        for (int i = 0; i < 30; i++, calls++) {
            x.word(1 + i % 4, i % 2, i % 10, i % 3, i % 5 == 0);
        }
        for (int line = 0; line < 10; line++, calls++) {
            x.line(line % 4, 6, line % 6);
            for (int place = 0; place < 8; place++, calls++) {
                x.write(line, place, (line * 8 + place) % 30);
            }
        }
        int first = x.worst();
        for (; calls < 511; calls++) {
            Check.same("worst of a full poem", x.worst(), first);
        }
    }
}
