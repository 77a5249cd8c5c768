import java.lang.reflect.Constructor;
import java.lang.reflect.Field;
import java.lang.reflect.Method;
import java.lang.reflect.Modifier;
import java.util.TreeSet;

/** The public face: what the document lists, and nothing else. */
public final class FaceTest {
    private static final String[] FACE = {
        "int count(int)", "int octet(int)", "int register(int)", "int rr(int,int,int,int)", "int run(int)",
        "int rx(int,int,int,int,int,int)", "int set(int,int)", "int ss(int,int,int,int,int,int,int)",
        "long packed(int,int)", "void poke(int,int,long)", "void start(int,int)",
    };

    public static void main(String[] args) {
        Check.same("public final", DecimalMachine.class.getModifiers(), Modifier.PUBLIC | Modifier.FINAL);
        checkMethods();
        for (Field field : DecimalMachine.class.getDeclaredFields()) {
            Check.same("private " + field.getName(), field.getModifiers() & Modifier.PRIVATE, Modifier.PRIVATE);
            if (Modifier.isStatic(field.getModifiers())) {
                Check.same("final " + field.getName(), field.getModifiers() & Modifier.FINAL, Modifier.FINAL);
            }
        }
        Constructor<?>[] constructors = DecimalMachine.class.getDeclaredConstructors();
        Check.same("constructors", constructors.length, 1);
        Check.same("constructor", constructors[0].toString(), "public DecimalMachine()");
        Check.end();
    }

    private static void checkMethods() {
        TreeSet<String> found = new TreeSet<>();
        TreeSet<String> publicNames = new TreeSet<>();
        for (Method method : DecimalMachine.class.getDeclaredMethods()) {
            if (!Modifier.isPrivate(method.getModifiers())) {
                found.add(describe(method));
                publicNames.add(method.getName());
            }
        }
        Check.same("face", String.join("; ", found), String.join("; ", FACE));
        for (Method method : DecimalMachine.class.getDeclaredMethods()) {
            boolean clashes = Modifier.isPrivate(method.getModifiers()) && publicNames.contains(method.getName());
            Check.same("private " + method.getName() + " bears a public name", clashes ? 1 : 0, 0);
        }
    }

    private static String describe(Method method) {
        StringBuilder text = new StringBuilder();
        text.append(method.getReturnType().getSimpleName()).append(' ').append(method.getName()).append('(');
        String comma = "";
        for (Class<?> type : method.getParameterTypes()) {
            text.append(comma).append(type.getSimpleName());
            comma = ",";
        }
        return text.append(')').toString();
    }
}
