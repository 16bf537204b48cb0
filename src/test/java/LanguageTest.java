import java.lang.reflect.Field;
import java.lang.reflect.Member;
import java.lang.reflect.Method;
import java.lang.reflect.Modifier;
import java.nio.file.Files;
import java.nio.file.Path;
import java.util.Arrays;
import java.util.HashSet;
import java.util.List;
import java.util.Set;
import java.util.TreeSet;
import java.util.regex.Matcher;
import java.util.regex.Pattern;

/** The face of the class, and the rules of LANGUAGE.md that reflection and a look at the source can tell. */
public final class LanguageTest {
    private static final Set<String> FACE = new TreeSet<>(List.of(
        "int walk(int)", "int step(int,int)", "int back(int,int)", "int pivot(int,int,int)", "int join(int,int)",
        "int turnBack(int)", "int stepAt(int,int)", "int place(int,int,int)", "int about(int,int)",
        "int form(int,int)", "int alike(int,int)", "int walks(int,int)", "long squares(int,int)",
        "int rings(int,int)", "int bridges(int,int)", "int forms(int,int)", "int reach(int,int)",
        "int board(int,int)", "int hole(int,int,boolean)", "int ways(boolean)", "int waysOf(int)",
        "int shortest()", "int count(int)", "long digest()"));
    private static final List<String> FORBIDDEN = List.of("throw", "throws", "try", "catch", "finally",
        "synchronized", "assert", "import", "package", "->", "::", "Object", "System.out", "native", "volatile");
    private static final Due CHECK = new Due();

    public static void main(String[] args) throws Exception {
        face();
        inside();
        source(Files.readString(Path.of("src/main/java/WalkGrounds.java")));
        CHECK.end();
    }

    private static String told(Method method) {
        StringBuilder made = new StringBuilder(method.getReturnType() + " " + method.getName() + "(");
        for (Class<?> type : method.getParameterTypes()) {
            made.append(made.charAt(made.length() - 1) == '(' ? "" : ",").append(type);
        }
        return made.append(")").toString();
    }

    private static void face() {
        Set<String> open = new TreeSet<>();
        Set<String> hidden = new HashSet<>();
        Set<String> names = new HashSet<>();
        for (Method method : WalkGrounds.class.getDeclaredMethods()) {
            if (Modifier.isPublic(method.getModifiers())) {
                open.add(told(method));
                names.add(method.getName());
            } else {
                hidden.add(method.getName());
                isPrivate(method);
            }
        }
        if (!open.equals(FACE)) {
            CHECK.fault("the public methods are " + open);
        }
        hidden.retainAll(names);
        if (!hidden.isEmpty()) {
            CHECK.fault("private methods with the name of a public one: " + hidden);
        }
        Set<String> constants = new TreeSet<>();
        for (Field field : WalkGrounds.class.getDeclaredFields()) {
            if (Modifier.isPublic(field.getModifiers())) {
                constants.add(field.getName());
            } else {
                isPrivate(field);
            }
        }
        CHECK.due("the public constants as told", constants.equals(
            new TreeSet<>(List.of("NONE", "BAD", "NO", "FULL", "SPENT"))) ? 1 : 0, 1);
        long[] values = {WalkGrounds.NONE, WalkGrounds.BAD, WalkGrounds.NO, WalkGrounds.FULL, WalkGrounds.SPENT};
        for (int i = 0; i < values.length; i++) {
            CHECK.due("the constant " + i, values[i], -1 - i);
        }
        CHECK.due("public constructors", WalkGrounds.class.getConstructors().length, 1);
        CHECK.due("final", Modifier.isFinal(WalkGrounds.class.getModifiers()) ? 1 : 0, 1);
    }

    private static void isPrivate(Member member) {
        CHECK.due("private: " + member.getName(), Modifier.isPrivate(member.getModifiers()) ? 1 : 0, 1);
    }

    private static void inside() {
        Class<?>[] inner = WalkGrounds.class.getDeclaredClasses();
        CHECK.due("at most twelve classes", inner.length <= 11 ? 1 : 0, 1);
        for (Class<?> one : inner) {
            CHECK.due("static: " + one, Modifier.isStatic(one.getModifiers()) ? 1 : 0, 1);
            int own = 0;
            for (Field field : one.getDeclaredFields()) {
                own += Modifier.isStatic(field.getModifiers()) ? 0 : 1;
                if (Modifier.isStatic(field.getModifiers()) && !isConstant(field)) {
                    CHECK.fault("a static field that is no constant: " + field);
                }
            }
            CHECK.due("at most twenty fields: " + one, own <= 20 ? 1 : 0, 1);
            for (Method method : one.getDeclaredMethods()) {
                CHECK.due("parameters of " + method, method.getParameterCount() <= 7 ? 1 : 0, 1);
            }
        }
    }

    private static boolean isConstant(Field field) {
        return Modifier.isFinal(field.getModifiers()) && Set.of("int", "long", "boolean", "char", "String",
            "int[]", "long[]", "char[]", "byte[]").contains(field.getType().getSimpleName());
    }

    private static void source(String text) {
        String code = text.replaceAll("(?s)/\\*.*?\\*/", "").replaceAll("//[^\n]*", "");
        for (String word : FORBIDDEN) {
            String edge = Character.isLetter(word.charAt(0)) ? "\\b" : "";
            if (Pattern.compile(edge + Pattern.quote(word) + edge).matcher(code).find()) {
                CHECK.fault("the source has '" + word + "'");
            }
        }
        for (char sign : text.toCharArray()) {
            if (sign > 126) {
                CHECK.fault("the source has the sign " + (int) sign);
            }
        }
        methodsAreShort(text);
    }

    /** A method begins and ends with as many blanks as its class's members stand in. */
    private static void methodsAreShort(String text) {
        List<String> lines = Arrays.asList(text.split("\n"));
        Pattern head = Pattern.compile("^( {4}| {8})\\S[^=;]*\\([^;]*\\) \\{$");
        for (int i = 0; i < lines.size(); i++) {
            Matcher found = head.matcher(lines.get(i));
            if (found.find()) {
                int length = lines.subList(i, lines.size()).indexOf(found.group(1) + "}");
                CHECK.due("short: " + lines.get(i), length >= 0 && length <= 60 ? 1 : 0, 1);
            }
        }
    }
}
