import java.lang.reflect.Constructor;
import java.lang.reflect.Field;
import java.lang.reflect.Member;
import java.lang.reflect.Method;
import java.lang.reflect.Modifier;
import java.util.TreeSet;

/** The public face is that of the document, each method with its exceptions in their order. */
public final class FaceTest {
    private static final String INDEX = "IndexOutOfBoundsException";
    private static final String ARGUMENT = "IllegalArgumentException";
    private static final String STATE = "IllegalStateException";
    private static final String UNSUPPORTED = "UnsupportedOperationException";
    private static final String ELEMENT = "NoSuchElementException";
    private static final String ARITHMETIC = "ArithmeticException";

    private static final String[] FACE = {
        "int setGround(int,int,boolean) " + INDEX + " " + ARGUMENT + " " + STATE,
        "int setHour(int,int,int) " + ARGUMENT + " " + STATE,
        "int addDike(int,boolean,int,int) " + INDEX + " " + ARGUMENT + " " + UNSUPPORTED + " " + STATE,
        "int addStation(int) " + INDEX + " " + STATE,
        "int addPump(int,int,int) " + INDEX + " " + ARGUMENT + " " + STATE,
        "int addSensor(int,int,int,int) " + INDEX + " " + ARGUMENT + " " + STATE,
        "int addGroup(int,int,int) " + INDEX + " " + ARGUMENT + " " + STATE,
        "int addShelter(int,int) " + INDEX + " " + ARGUMENT + " " + STATE,
        "boolean turn(int,boolean) " + INDEX + " " + STATE,
        "int raise(int,int) " + INDEX + " " + ARGUMENT + " " + UNSUPPORTED + " " + STATE,
        "int cut(int) " + INDEX + " " + UNSUPPORTED + " " + STATE,
        "boolean open(int,boolean) " + INDEX + " " + STATE,
        "int warn(int) " + INDEX + " " + UNSUPPORTED + " " + STATE,
        "int pass(int) " + ARGUMENT + " " + STATE,
        "int hour()",
        "int water(int) " + INDEX,
        "int level(int) " + INDEX,
        "char dike(int) " + INDEX,
        "int brokenAt(int) " + INDEX + " " + ELEMENT,
        "int wear(int) " + INDEX,
        "boolean hasPower(int) " + INDEX,
        "int newsAt(int) " + INDEX + " " + ELEMENT,
        "boolean isKnown()",
        "int cellOf(int) " + INDEX,
        "int people(int) " + INDEX,
        "char state(int) " + INDEX,
        "int inShelter(int) " + INDEX,
        "int harm()",
        "char reason(int) " + INDEX + " " + ELEMENT,
        "int choices()",
        "int choiceHour(int) " + INDEX,
        "int harmWithout(int) " + INDEX,
        "int worst() " + ELEMENT,
        "long come()",
        "long gone()",
        "float wetShare() " + ARITHMETIC,
        "double meanWater() " + ARITHMETIC,
        "boolean isConsistent()"};

    public static void main(String[] args) {
        Class<?> face = Stormcellar.class;
        Check.isTrue("the class is public and final",
                Modifier.isPublic(face.getModifiers()) && Modifier.isFinal(face.getModifiers()));
        Check.is("constructors", face.getDeclaredConstructors().length, 1);
        for (Constructor<?> made : face.getDeclaredConstructors()) {
            Check.isTrue("the constructor is public", Modifier.isPublic(made.getModifiers()));
            Check.is("the constructor takes nothing", made.getParameterCount(), 0);
        }
        for (Field field : face.getDeclaredFields()) {
            Check.isTrue("the field is private: " + field.getName(), Modifier.isPrivate(field.getModifiers()));
        }
        for (Class<?> inside : face.getDeclaredClasses()) {
            Check.isTrue("the class inside is static: " + inside, Modifier.isStatic(inside.getModifiers()));
            Check.isFalse("the class inside is hidden: " + inside, Modifier.isPublic(inside.getModifiers()));
        }
        methods(face);
        Check.end();
    }

    static TreeSet<String> names() {
        TreeSet<String> names = new TreeSet<>();
        for (String line : FACE) {
            names.add(line.substring(line.indexOf(' ') + 1, line.indexOf('(')));
        }
        return names;
    }

    private static void methods(Class<?> face) {
        TreeSet<String> due = new TreeSet<>(java.util.List.of(FACE));
        TreeSet<String> got = new TreeSet<>();
        TreeSet<String> names = new TreeSet<>();
        for (Method method : face.getDeclaredMethods()) {
            if (!isHidden(method)) {
                got.add(sign(method));
                names.add(method.getName());
            }
        }
        Check.isText("the methods", got.toString(), due.toString());
        for (Method method : face.getDeclaredMethods()) {
            Check.isFalse("no private method is named like a public one: " + method.getName(),
                    isHidden(method) && names.contains(method.getName()));
        }
    }

    private static boolean isHidden(Member member) {
        return Modifier.isPrivate(member.getModifiers());
    }

    private static String sign(Method method) {
        StringBuilder text = new StringBuilder();
        text.append(method.getReturnType()).append(' ').append(method.getName()).append('(');
        for (int i = 0; i < method.getParameterCount(); i++) {
            text.append(i > 0 ? "," : "").append(method.getParameterTypes()[i]);
        }
        text.append(')');
        for (Class<?> thrown : method.getExceptionTypes()) {
            text.append(' ').append(thrown.getSimpleName());
        }
        return text.toString();
    }
}
