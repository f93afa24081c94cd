import java.lang.reflect.Constructor;
import java.lang.reflect.Executable;
import java.lang.reflect.Field;
import java.lang.reflect.Method;
import java.lang.reflect.Modifier;
import java.util.Set;
import java.util.TreeSet;

/** The face: the class has the document's public members and no other member that is not private. */
public final class FaceTest {
    private static final String[] FACE = {
        "void setGrant(int,int,int,int) IllegalArgumentException IllegalStateException",
        "int addLine(int,int,int,boolean) IllegalArgumentException IllegalStateException",
        "int extend(int,int) IndexOutOfBoundsException IllegalArgumentException",
        "int move(int,int,int) IndexOutOfBoundsException IllegalArgumentException IllegalStateException",
        "int lines()",
        "int room(int) IndexOutOfBoundsException",
        "int left(int) IndexOutOfBoundsException",
        "int spend(int,int,int) IndexOutOfBoundsException IllegalArgumentException IllegalStateException",
        "int refuse(int) IndexOutOfBoundsException IllegalStateException",
        "int admit(int) IndexOutOfBoundsException IllegalStateException",
        "int match(int) IllegalArgumentException IllegalStateException",
        "int vouchers()",
        "boolean fits(int) IndexOutOfBoundsException",
        "int eligible(int) IndexOutOfBoundsException",
        "int costs(int) IllegalArgumentException",
        "int overhead(int) IllegalArgumentException",
        "int earned(int) IllegalArgumentException",
        "int missingMatch(int) IllegalArgumentException",
        "int claim(int) IllegalArgumentException IllegalStateException",
        "int claims()",
        "int paid(int) IndexOutOfBoundsException",
        "int unsettled()",
    };

    public static void main(String[] args) {
        Check.due("the class", Modifier.toString(GrantBook.class.getModifiers()), "public final");
        Check.due("its parent", GrantBook.class.getSuperclass().getName(), "java.lang.Object");
        Check.due("its interfaces", GrantBook.class.getInterfaces().length, 0);
        methods();
        constructors();
        fields();
        Check.end("FaceTest");
    }

    private static void methods() {
        Set<String> found = new TreeSet<>();
        Set<String> publicNames = new TreeSet<>();
        for (Method m : GrantBook.class.getDeclaredMethods()) {
            if (!Modifier.isPrivate(m.getModifiers())) {
                found.add(Modifier.toString(m.getModifiers()) + " " + m.getReturnType() + " " + m.getName() + rest(m));
                publicNames.add(m.getName());
            }
        }
        Set<String> want = new TreeSet<>();
        for (String line : FACE) {
            want.add("public " + line);
        }
        Check.due("the methods", found.toString(), want.toString());
        for (Method m : GrantBook.class.getDeclaredMethods()) {
            if (Modifier.isPrivate(m.getModifiers())) {
                Check.due("a private method named " + m.getName(), publicNames.contains(m.getName()), false);
            }
        }
    }

    private static void constructors() {
        Constructor<?>[] all = GrantBook.class.getDeclaredConstructors();
        Check.due("the number of constructors", all.length, 1);
        Check.due("the constructor", Modifier.toString(all[0].getModifiers()) + rest(all[0]), "public()");
    }

    private static void fields() {
        for (Field f : GrantBook.class.getDeclaredFields()) {
            int modifiers = f.getModifiers();
            Check.due("the field " + f.getName() + " is private", Modifier.isPrivate(modifiers), true);
            Check.due("the field " + f.getName() + " is final if static",
                !Modifier.isStatic(modifiers) || Modifier.isFinal(modifiers), true);
        }
    }

    private static String rest(Executable member) {
        StringBuilder text = new StringBuilder("(");
        for (Class<?> type : member.getParameterTypes()) {
            text.append(text.length() > 1 ? "," : "").append(type.getSimpleName());
        }
        text.append(')');
        for (Class<?> type : member.getExceptionTypes()) {
            text.append(' ').append(type.getSimpleName());
        }
        return text.toString();
    }
}
