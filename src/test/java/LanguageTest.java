import java.lang.reflect.Constructor;
import java.lang.reflect.Field;
import java.lang.reflect.Member;
import java.lang.reflect.Method;
import java.lang.reflect.Modifier;
import java.nio.charset.StandardCharsets;
import java.nio.file.Files;
import java.nio.file.Path;
import java.util.ArrayList;
import java.util.List;
import java.util.Set;
import java.util.TreeSet;
import java.util.regex.Matcher;
import java.util.regex.Pattern;

/** The face of the document, and those rules of LANGUAGE.md that can be seen from outside. */
public final class LanguageTest {
    private static final Path SOURCE = Path.of("src/main/java/WireFamily.java");
    private static final Set<String> FACE = Set.of(
            "int write(int)", "int wipe()", "int fault()", "int family()", "int about(int)",
            "int cell(int,int,int)", "int kin(int,int)", "int has(int,int)", "int can(int)",
            "int draw(int,int)", "int change(int)", "int join()", "int undo()", "int best(int)",
            "int fewest(int,int)", "int fair(int,int,int)", "int judge(int,int)",
            "int share(int,int,boolean)", "int see(int,int)", "int unsee()", "int traces(int)",
            "int rests(int)", "int slips(int,int,int,boolean)", "long seed(long)", "int years(int)",
            "int keep(int)", "int again(int)");
    private static final Set<String> CONSTANTS = Set.of("UNKNOWN", "BAD", "LATE", "FULL", "NONE");
    private static final List<String> wrong = new ArrayList<>();

    private static void must(boolean holds, String what) {
        if (!holds) {
            wrong.add(what);
        }
    }

    private static String told(Method method) {
        List<String> types = new ArrayList<>();
        for (Class<?> type : method.getParameterTypes()) {
            types.add(type.getSimpleName());
        }
        return method.getReturnType().getSimpleName() + " " + method.getName() + "(" + String.join(",", types) + ")";
    }

    private static boolean isPublic(Member member) {
        return Modifier.isPublic(member.getModifiers());
    }

    private static void face() {
        Class<?> type = WireFamily.class;
        must(Modifier.isPublic(type.getModifiers()) && Modifier.isFinal(type.getModifiers()), "1: public and final");
        Set<String> names = new TreeSet<>();
        Set<String> methods = new TreeSet<>();
        for (Method method : type.getDeclaredMethods()) {
            if (isPublic(method)) {
                methods.add(told(method));
                names.add(method.getName());
            } else {
                must(Modifier.isPrivate(method.getModifiers()), "1: not private: " + method);
            }
        }
        must(methods.equals(FACE), "1: the face is " + methods);
        Set<String> constants = new TreeSet<>();
        for (Field field : type.getDeclaredFields()) {
            if (isPublic(field)) {
                constants.add(field.getName());
            }
            must(isPublic(field) || Modifier.isPrivate(field.getModifiers()), "1: not private: " + field);
        }
        must(constants.equals(CONSTANTS), "1: the constants are " + constants);
        Constructor<?>[] constructors = type.getDeclaredConstructors();
        must(constructors.length == 1 && isPublic(constructors[0])
                && constructors[0].getParameterCount() == 0, "1: one public constructor");
        privateNames(type, names);
        for (Class<?> inside : type.getDeclaredClasses()) {
            privateNames(inside, names);
            insideClass(inside);
        }
        must(type.getDeclaredClasses().length < 12, "11: some twelve classes");
    }

    private static void privateNames(Class<?> type, Set<String> names) {
        for (Method method : type.getDeclaredMethods()) {
            must(isPublic(method) || !names.contains(method.getName()), "1: a public one's name: " + method);
            must(method.getParameterCount() <= 7, "11: parameters: " + method);
        }
        int fields = 0;
        for (Field field : type.getDeclaredFields()) {
            boolean isStatic = Modifier.isStatic(field.getModifiers());
            fields += isStatic ? 0 : 1;
            must(!isStatic || Modifier.isFinal(field.getModifiers()), "5: static, not final: " + field);
        }
        must(fields <= 20, "11: fields of " + type);
    }

    private static void insideClass(Class<?> type) {
        must(Modifier.isStatic(type.getModifiers()) && !Modifier.isPublic(type.getModifiers())
                && !Modifier.isProtected(type.getModifiers()), "1: static and not public: " + type);
        must(type.getDeclaredClasses().length == 0, "2: a class in a class in a class: " + type);
    }

    /** The program without its comments and without what stands in quotes. */
    private static String code(String source) {
        return source.replaceAll("(?s)/\\*.*?\\*/", "").replaceAll("//[^\n]*", "")
                .replaceAll("\"(\\\\.|[^\"\\\\])*\"", "\"\"").replaceAll("'(\\\\.|[^'\\\\])'", "' '");
    }

    private static void words(String code) {
        for (String word : new String[] {"throw", "throws", "try", "catch", "finally", "synchronized", "assert",
            "hashCode", "toString", "equals", "Object", "Thread", "System.currentTimeMillis", "System.nanoTime",
            "Random", "package", "var", "volatile", "native", "strictfp", "transient"}) {
            must(!Pattern.compile("\\b" + Pattern.quote(word) + "\\b").matcher(code).find(), "6: " + word);
        }
        must(!code.contains("->") && !code.contains("::"), "2: lambda or method reference");
        must(!code.contains("@"), "3: annotation");
        must(!Pattern.compile("while\\s*\\(\\s*true|for\\s*\\(\\s*;\\s*;").matcher(code).find(), "9: endless loop");
        for (Matcher line = Pattern.compile("import ([^;]*);").matcher(code); line.find(); ) {
            must(Set.of("java.util.Arrays", "java.util.ArrayList", "java.util.List").contains(line.group(1)),
                    "4: import " + line.group(1));
        }
        for (Matcher call = Pattern.compile("\\b(System|Arrays|Math|Integer|Long|String)\\.(\\w+)").matcher(code);
                call.find(); ) {
            must(Set.of("System.arraycopy", "Arrays.fill", "Arrays.copyOf", "Arrays.copyOfRange", "Math.min",
                    "Math.max", "Math.abs", "Integer.bitCount").contains(call.group()), "4: " + call.group());
        }
    }

    /** New objects and arrays are made by constructors and initialisers alone. */
    private static void news(String code) {
        for (String line : code.split("\n")) {
            if (Pattern.compile("\\bnew\\b").matcher(line).find()) {
                must(line.matches("\\s*(private final [^=]* = )?(\\w+(\\[slot\\])? = )?new [^;]*;"), "12: " + line.trim());
            }
        }
    }

    private static void lengths(String source) {
        String[] lines = source.split("\n");
        int start = -1;
        int depthAtStart = 0;
        int depth = 0;
        for (int at = 0; at < lines.length; at++) {
            String line = code(lines[at]);
            boolean opensMethod = line.matches(" {4,8}\\S.*\\)\\s*\\{\\s*") && start < 0
                    && !line.matches("\\s*(if|for|while|switch|else|\\}).*");
            if (opensMethod) {
                start = at;
                depthAtStart = depth;
            }
            depth += line.chars().map(c -> c == '{' ? 1 : c == '}' ? -1 : 0).sum();
            if (start >= 0 && depth == depthAtStart) {
                must(at - start < 60, "11: method of " + (at - start + 1) + " lines: " + lines[start].trim());
                start = -1;
            }
        }
    }

    public static void main(String[] args) throws Exception {
        face();
        byte[] bytes = Files.readAllBytes(SOURCE);
        for (byte sign : bytes) {
            must(sign > 0, "4: a sign above 127");
        }
        String source = new String(bytes, StandardCharsets.US_ASCII);
        String code = code(source);
        words(code);
        news(code);
        lengths(source);
        for (String line : wrong) {
            System.out.println(line);
        }
        if (!wrong.isEmpty()) {
            System.exit(1);
        }
    }
}
