import java.lang.reflect.Constructor;
import java.lang.reflect.Field;
import java.lang.reflect.Member;
import java.lang.reflect.Method;
import java.lang.reflect.Modifier;
import java.util.Set;
import java.util.TreeSet;

/** The public face: every constant, constructor and method of the document, and no other. */
public final class FaceTest {
    private static final String[] METHODS = {
        "int feed(int,int,int,int,int)", "int back(int)", "int read()", "int place()", "int block(int,int)",
        "int value(int,int)", "int ins(int,int,int)", "boolean live(int,int,int)", "int pressure(int,int)",
        "int clique(int)", "boolean meet(int,int)", "int fit(int)", "int colour(int)", "int lower()",
        "int code(int,int)", "int input(int)", "int clear()", "int run(boolean,int)", "int told(boolean,int)",
        "int output(boolean,int)", "int memory(boolean,int)", "int count(int)"};

    private static final Check CHECK = new Check();

    private FaceTest() {
    }

    public static void main(String[] args) {
        Class<?> face = PaletteHouse.class;
        CHECK.due("public and final", face.getModifiers(), Modifier.PUBLIC | Modifier.FINAL);
        CHECK.due("no package", face.getPackageName().length(), 0);
        CHECK.due("above it only Object", face.getSuperclass() == Object.class && face.getInterfaces().length == 0, true);
        CHECK.due("NONE", PaletteHouse.NONE, -1);
        fields(face);
        constructors(face);
        methods(face);
        inside(face);
        CHECK.end("FaceTest");
    }

    private static void fields(Class<?> face) {
        for (Field field : face.getDeclaredFields()) {
            if (field.getName().equals("NONE")) {
                CHECK.due("NONE is a constant of the face", field.getModifiers(),
                    Modifier.PUBLIC | Modifier.STATIC | Modifier.FINAL);
                CHECK.due("NONE is an int", field.getType() == int.class, true);
            } else {
                isPrivate(field);
            }
        }
    }

    private static void constructors(Class<?> face) {
        Constructor<?>[] made = face.getDeclaredConstructors();
        CHECK.due("one constructor", made.length, 1);
        CHECK.due("it is public", made[0].getModifiers(), Modifier.PUBLIC);
        CHECK.due("it takes nothing", made[0].getParameterCount(), 0);
    }

    private static void methods(Class<?> face) {
        Set<String> want = new TreeSet<>(Set.of(METHODS));
        Set<String> names = new TreeSet<>();
        for (String method : METHODS) {
            names.add(method.substring(method.indexOf(' ') + 1, method.indexOf('(')));
        }
        for (Method method : face.getDeclaredMethods()) {
            if (Modifier.isPublic(method.getModifiers())) {
                CHECK.due(form(method) + " is of the document", want.remove(form(method)), true);
                CHECK.due(form(method) + " is public alone", method.getModifiers(), Modifier.PUBLIC);
            } else {
                isPrivate(method);
                CHECK.due(method.getName() + " has a name of its own", names.contains(method.getName()), false);
            }
        }
        CHECK.due("missing: " + want, want.size(), 0);
    }

    /** Classes inside are static and not for others; their methods have names of their own, too. */
    private static void inside(Class<?> face) {
        for (Class<?> nested : face.getDeclaredClasses()) {
            int modifiers = nested.getModifiers();
            CHECK.due(nested + " is static", Modifier.isStatic(modifiers), true);
            CHECK.due(nested + " is not for others", modifiers & (Modifier.PUBLIC | Modifier.PROTECTED), 0);
        }
    }

    private static String form(Method method) {
        StringBuilder form = new StringBuilder();
        form.append(method.getReturnType().getName()).append(' ').append(method.getName()).append('(');
        Class<?>[] types = method.getParameterTypes();
        for (int n = 0; n < types.length; n++) {
            form.append(n > 0 ? "," : "").append(types[n].getName());
        }
        return form.append(')').toString();
    }

    private static void isPrivate(Member member) {
        CHECK.due(member.getName() + " is private", Modifier.isPrivate(member.getModifiers()), true);
    }
}
