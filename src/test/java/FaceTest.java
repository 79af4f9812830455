import java.lang.reflect.Constructor;
import java.lang.reflect.Field;
import java.lang.reflect.Method;
import java.lang.reflect.Modifier;
import java.util.Arrays;
import java.util.Set;
import java.util.TreeSet;

/** The public face: what the document shows, and nothing more that can be seen. */
public final class FaceTest {
    private static final Set<String> DUE = new TreeSet<>(Arrays.asList(
            "public void load(int, long, int) throws IllegalArgumentException",
            "public int peek(int) throws IllegalArgumentException",
            "public void start(int) throws IllegalArgumentException",
            "public int run(int) throws IllegalArgumentException",
            "public void interrupt(int) throws IllegalArgumentException",
            "public void bring(int, int) throws IllegalArgumentException",
            "public int out(int) throws IllegalArgumentException",
            "public int register(int) throws IllegalArgumentException",
            "public void set(int, int) throws IllegalArgumentException",
            "public boolean is(int) throws IllegalArgumentException",
            "public long states()"));

    public static void main(String[] args) {
        Set<String> seen = new TreeSet<>();
        Set<String> seenNames = new TreeSet<>();
        Set<String> hiddenNames = new TreeSet<>();
        for (Method method : PortProcessor.class.getDeclaredMethods()) {
            if (Modifier.isPrivate(method.getModifiers())) {
                hiddenNames.add(method.getName());
            } else {
                seen.add(described(method));
                seenNames.add(method.getName());
            }
        }
        if (!seen.equals(DUE)) {
            System.out.println("the methods are " + seen + ", due are " + DUE);
        }
        Check.yes("the methods are those of the document", seen.equals(DUE));
        hiddenNames.retainAll(seenNames);
        Check.yes("no private method bears a public one's name", hiddenNames.isEmpty());
        for (Field field : PortProcessor.class.getDeclaredFields()) {
            Check.yes(field.getName() + " is private", Modifier.isPrivate(field.getModifiers()));
        }
        Check.same("the class's modifiers", PortProcessor.class.getModifiers(), Modifier.PUBLIC | Modifier.FINAL);
        Constructor<?>[] constructors = PortProcessor.class.getDeclaredConstructors();
        Check.same("the number of constructors", constructors.length, 1);
        Check.same("the constructor's modifiers", constructors[0].getModifiers(), Modifier.PUBLIC);
        Check.same("the constructor's parameters", constructors[0].getParameterCount(), 0);
        Check.finish();
    }

    private static String described(Method method) {
        StringBuilder text = new StringBuilder(Modifier.toString(method.getModifiers()));
        text.append(' ').append(method.getReturnType().getSimpleName()).append(' ').append(method.getName()).append('(');
        for (int i = 0; i < method.getParameterCount(); i++) {
            text.append(i == 0 ? "" : ", ").append(method.getParameterTypes()[i].getSimpleName());
        }
        text.append(')');
        for (Class<?> thrown : method.getExceptionTypes()) {
            text.append(" throws ").append(thrown.getSimpleName());
        }
        return text.toString();
    }
}
