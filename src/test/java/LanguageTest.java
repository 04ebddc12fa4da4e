import java.io.IOException;
import java.lang.reflect.Constructor;
import java.lang.reflect.Field;
import java.lang.reflect.Member;
import java.lang.reflect.Method;
import java.lang.reflect.Modifier;
import java.nio.file.Files;
import java.nio.file.Path;
import java.util.ArrayList;
import java.util.List;
import java.util.Set;
import java.util.TreeSet;

/** The face of the document, and those rules of LANGUAGE.md that the compiled class shows. */
public final class LanguageTest extends Checks {
    private static final Path SOURCE = Path.of("src/main/java/WireFamily.java");
    private static final Set<String> FACE = Set.of(
            "int write(int)", "int wipe()", "int fault()", "int family()", "int about(int)",
            "int cell(int,int,int)", "int kin(int,int)", "int has(int,int)", "int can(int)",
            "int draw(int,int)", "int change(int)", "int join()", "int undo()", "int best(int)",
            "int fewest(int,int)", "int fair(int,int,int)", "int judge(int,int)",
            "int share(int,int,boolean)", "int see(int,int)", "int unsee()", "int traces(int)",
            "int rests(int)", "int slips(int,int,int,boolean)", "long seed(long)", "int years(int)",
            "int keep(int)", "int again(int)");
    private static final Set<String> CONSTANTS = Set.of("UNKNOWN", "BAD", "LATE", "FULL", "NONE");

    private static void must(boolean holds, String what) {
        if (!holds) {
            wrong(what);
        }
    }

    private static String told(Method method) {
        List<String> types = new ArrayList<>();
        for (Class<?> type : method.getParameterTypes()) {
            types.add(type.getSimpleName());
        }
        return method.getReturnType().getSimpleName() + " " + method.getName() + "(" + String.join(",", types) + ")";
    }

    private static boolean isPublic(Member member) {
        return Modifier.isPublic(member.getModifiers());
    }

    private static void face() {
        Class<?> type = WireFamily.class;
        must(Modifier.isPublic(type.getModifiers()) && Modifier.isFinal(type.getModifiers()), "1: public and final");
        Set<String> names = new TreeSet<>();
        Set<String> methods = new TreeSet<>();
        for (Method method : type.getDeclaredMethods()) {
            if (isPublic(method)) {
                methods.add(told(method));
                names.add(method.getName());
            } else {
                must(Modifier.isPrivate(method.getModifiers()), "1: not private: " + method);
            }
        }
        must(methods.equals(FACE), "1: the face is " + methods);
        Set<String> constants = new TreeSet<>();
        for (Field field : type.getDeclaredFields()) {
            if (isPublic(field)) {
                constants.add(field.getName());
            }
            must(isPublic(field) || Modifier.isPrivate(field.getModifiers()), "1: not private: " + field);
        }
        must(constants.equals(CONSTANTS), "1: the constants are " + constants);
        Constructor<?>[] constructors = type.getDeclaredConstructors();
        must(constructors.length == 1 && isPublic(constructors[0])
                && constructors[0].getParameterCount() == 0, "1: one public constructor");
        privateNames(type, names);
        for (Class<?> inside : type.getDeclaredClasses()) {
            privateNames(inside, names);
            insideClass(inside);
        }
        must(type.getDeclaredClasses().length < 12, "11: some twelve classes");
    }

    private static void privateNames(Class<?> type, Set<String> names) {
        for (Method method : type.getDeclaredMethods()) {
            must(isPublic(method) || !names.contains(method.getName()), "1: a public one's name: " + method);
            must(method.getParameterCount() <= 7, "11: parameters: " + method);
        }
        int fields = 0;
        for (Field field : type.getDeclaredFields()) {
            boolean isStatic = Modifier.isStatic(field.getModifiers());
            fields += isStatic ? 0 : 1;
            must(!isStatic || Modifier.isFinal(field.getModifiers()), "5: static, not final: " + field);
        }
        must(fields <= 20, "11: fields of " + type);
    }

    private static void insideClass(Class<?> type) {
        must(Modifier.isStatic(type.getModifiers()) && !Modifier.isPublic(type.getModifiers())
                && !Modifier.isProtected(type.getModifiers()), "1: static and not public: " + type);
        must(type.getDeclaredClasses().length == 0, "2: a class in a class in a class: " + type);
    }

    private static void signs() throws IOException {
        for (byte sign : Files.readAllBytes(SOURCE)) {
            must(sign > 0, "4: a sign above 127");
        }
    }

    public static void main(String[] args) throws IOException {
        face();
        signs();
        end();
    }
}
