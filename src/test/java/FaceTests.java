import java.lang.reflect.Constructor;
import java.lang.reflect.Field;
import java.lang.reflect.Member;
import java.lang.reflect.Method;
import java.lang.reflect.Modifier;
import java.util.Arrays;
import java.util.TreeSet;

/** The public face: just what the document lists, with its throws clauses, and nothing else. */
final class FaceTests {
    private static final String I = "IndexOutOfBoundsException";
    private static final String A = "IllegalArgumentException";
    private static final String S = "IllegalStateException";

    private static final String[] FACE = {
        "int setKind(int,int,int) " + I + " " + A,
        "int setFormat(int,int) " + A,
        "int ban(int,boolean) " + I,
        "int print(int,int) " + I + " " + S,
        "int deck(int) " + I + " " + S,
        "int add(int,int) " + I + " " + A + " " + S,
        "int cut(int,int) " + I,
        "int play(int,int,int,int) " + I + " " + A + " " + S,
        "int offer(int,int) " + I + " " + A + " " + S,
        "int takeBack(int) " + I + " " + S,
        "int trade()",
        "int cards()",
        "int printOf(int) " + I,
        "int collectorOf(int) " + I,
        "int has(int,int) " + I,
        "int wins(int) " + I,
        "int price(int) " + I,
        "boolean isAllowed(int) " + I,
        "int shuffled(int,int,int) " + I + " " + A,
        "int orders(int,int,int) " + I + " " + A,
        "int ordersByAll(int,int,int) " + I + " " + A + " " + S,
        "boolean isOpen(int) " + I,
        "int ring(int) " + I,
    };

    private FaceTests() {
    }

    static void run() {
        Check.part("the face");
        int modifiers = Cardhouse.class.getModifiers();
        Check.isTrue("the class is public and final", Modifier.isPublic(modifiers) && Modifier.isFinal(modifiers));
        Check.same("NONE", Cardhouse.NONE, -1);
        methods();
        others();
    }

    private static void methods() {
        TreeSet<String> due = new TreeSet<>(Arrays.asList(FACE));
        TreeSet<String> got = new TreeSet<>();
        TreeSet<String> publicNames = new TreeSet<>();
        for (Method method : Cardhouse.class.getDeclaredMethods()) {
            if (Modifier.isPublic(method.getModifiers())) {
                got.add(written(method));
                publicNames.add(method.getName());
            }
        }
        Check.isTrue("public methods are " + got + ", due are " + due, got.equals(due));
        for (Method method : Cardhouse.class.getDeclaredMethods()) {
            if (!Modifier.isPublic(method.getModifiers())) {
                hidden(method);
                Check.isTrue("a private method bears a public name: " + method,
                    !publicNames.contains(method.getName()));
            }
        }
    }

    private static void others() {
        Constructor<?>[] constructors = Cardhouse.class.getDeclaredConstructors();
        Check.same("constructors", constructors.length, 1);
        Check.same("parameters of the constructor", constructors[0].getParameterCount(), 0);
        Check.isTrue("the constructor is public", Modifier.isPublic(constructors[0].getModifiers()));
        for (Field field : Cardhouse.class.getDeclaredFields()) {
            if (field.getName().equals("NONE")) {
                int all = Modifier.PUBLIC | Modifier.STATIC | Modifier.FINAL;
                Check.isTrue("NONE is a constant", field.getModifiers() == all && field.getType() == int.class);
            } else {
                hidden(field);
            }
        }
        for (Class<?> inside : Cardhouse.class.getDeclaredClasses()) {
            int modifiers = inside.getModifiers();
            Check.isTrue(inside + " is static, and not public or protected",
                Modifier.isStatic(modifiers) && !Modifier.isPublic(modifiers) && !Modifier.isProtected(modifiers));
        }
    }

    private static void hidden(Member member) {
        Check.isTrue("not private: " + member, Modifier.isPrivate(member.getModifiers()) || member.isSynthetic());
    }

    private static String written(Method method) {
        StringBuilder text = new StringBuilder();
        text.append(method.getReturnType().getSimpleName()).append(' ').append(method.getName()).append('(');
        String comma = "";
        for (Class<?> type : method.getParameterTypes()) {
            text.append(comma).append(type.getSimpleName());
            comma = ",";
        }
        text.append(')');
        for (Class<?> type : method.getExceptionTypes()) {
            text.append(' ').append(type.getSimpleName());
        }
        return text.toString();
    }
}
