import java.lang.reflect.Constructor;
import java.lang.reflect.Field;
import java.lang.reflect.Method;
import java.lang.reflect.Modifier;
import java.util.TreeSet;

/** The public face: what the document lists, and nothing else that can be seen. */
public final class FaceTest {
    private static final String[] METHODS = {
        "int write(int,int) throws IllegalArgumentException",
        "int read(int) throws IllegalArgumentException",
        "int writeDisk(int,int) throws IllegalArgumentException",
        "int readDisk(int) throws IllegalArgumentException",
        "int register(int) throws IndexOutOfBoundsException",
        "void put(int,int) throws IndexOutOfBoundsException",
        "int type(int) throws IllegalArgumentException",
        "int written()",
        "int text(int) throws IndexOutOfBoundsException",
        "void want(int) throws IllegalArgumentException",
        "int step(int) throws IllegalArgumentException",
        "long cycles()",
        "int told(int) throws IllegalArgumentException",
        "int sum()",
    };

    public static void main(String[] args) {
        Checks.same("NONE", DiskMachine.NONE, -1);
        Checks.same("public and final", DiskMachine.class.getModifiers(),
            Modifier.PUBLIC | Modifier.FINAL);
        methodsAreTheDocuments();
        constructorIsTheDocuments();
        onlyTheConstantIsSeen();
        for (Class<?> inside : DiskMachine.class.getDeclaredClasses()) {
            Checks.same(inside + " is static", inside.getModifiers() & Modifier.STATIC,
                Modifier.STATIC);
        }
        Checks.end();
    }

    private static void methodsAreTheDocuments() {
        TreeSet<String> due = new TreeSet<>();
        for (String method : METHODS) {
            due.add(method);
        }
        TreeSet<String> got = new TreeSet<>();
        for (Method method : DiskMachine.class.getDeclaredMethods()) {
            if (!Modifier.isPrivate(method.getModifiers())) {
                Checks.same(method + " is public", method.getModifiers(), Modifier.PUBLIC);
                got.add(told(method));
            }
        }
        Checks.same("methods", got.toString(), due.toString());
    }

    private static String told(Method method) {
        StringBuilder text = new StringBuilder();
        text.append(method.getReturnType().getName()).append(' ').append(method.getName());
        text.append('(');
        String comma = "";
        for (Class<?> parameter : method.getParameterTypes()) {
            text.append(comma).append(parameter.getName());
            comma = ",";
        }
        text.append(')');
        for (Class<?> thrown : method.getExceptionTypes()) {
            text.append(" throws ").append(thrown.getSimpleName());
        }
        return text.toString();
    }

    private static void constructorIsTheDocuments() {
        Constructor<?>[] all = DiskMachine.class.getDeclaredConstructors();
        Checks.same("constructors", all.length, 1);
        Checks.same("its parameters", all[0].getParameterCount(), 0);
        Checks.same("it is public", all[0].getModifiers(), Modifier.PUBLIC);
    }

    private static void onlyTheConstantIsSeen() {
        for (Field field : DiskMachine.class.getDeclaredFields()) {
            if (field.getName().equals("NONE")) {
                Checks.same("NONE is a public constant", field.getModifiers(),
                    Modifier.PUBLIC | Modifier.STATIC | Modifier.FINAL);
            } else {
                Checks.same(field + " is private", field.getModifiers() & Modifier.PRIVATE,
                    Modifier.PRIVATE);
            }
        }
    }
}
