import java.io.IOException;
import java.lang.reflect.Constructor;
import java.lang.reflect.Field;
import java.lang.reflect.Method;
import java.lang.reflect.Modifier;
import java.nio.file.Files;
import java.nio.file.Path;
import java.util.HashSet;
import java.util.Set;
import java.util.TreeSet;
import java.util.regex.Matcher;
import java.util.regex.Pattern;

/** The public face is the document's, and the source keeps to those rules of LANGUAGE.md that can be seen from here. */
public final class FaceTests {
    private static final String SOURCE = "src/main/java/NightRiders.java";
    private static final String[] FACE = {
        "int place()",
        "boolean road(int,int,int)",
        "int rider(int,int,int,int,int)",
        "int rest(int)",
        "int count(int)",
        "int way(int,int,int)",
        "int of(int,int) throws java.util.NoSuchElementException",
        "int duty(int,int)",
        "int bare(int,int)",
        "int call(int,int,int,int,int)",
        "int best(int)",
        "int send(int)",
        "int told(int,int)",
        "int leg(int,int,int)",
        "int hand(int,int)",
        "int fail(int,int,int)",
        "int next(int,int)",
    };
    // The calls that stand behind the line "---- calls", as the document says.
    private static final String[] CALLS = {"call", "best", "send", "told", "leg", "hand", "fail", "next"};
    private static final String[] FORBIDDEN = {
        "->", "::", "\\bfinally\\b", "\\bcatch\\b", "\\bsynchronized\\b", "\\bassert\\b", "\\bpackage\\b", "\\w+Exact\\b",
        "\\bMap\\b", "\\bSet\\b", "\\bSystem\\.(?!arraycopy)", "\\bRandom\\b", "\\bThread\\b", "\\bprotected\\b",
        "import (?!java\\.util\\.NoSuchElementException;)", "[^\\x00-\\x7F]",
    };
    private static int wrong = 0;

    public static void main(String[] args) throws IOException {
        members();
        none();
        fields();
        nestedClasses();
        String source = Files.readString(Path.of(SOURCE));
        source(source);
        order(source);
        System.out.println("FaceTests: " + wrong + " wrong");
        if (wrong != 0) {
            System.exit(1);
        }
    }

    private static void need(boolean kept, String what) {
        if (!kept) {
            wrong++;
            System.out.println(what);
        }
    }

    private static void members() {
        Class<?> type = NightRiders.class;
        need(Modifier.isPublic(type.getModifiers()) && Modifier.isFinal(type.getModifiers()), "the class is not public and final");
        Constructor<?>[] made = type.getDeclaredConstructors();
        need(made.length == 1 && Modifier.isPublic(made[0].getModifiers()), "not the one public constructor");
        need(made.length == 1 && made[0].getParameterCount() == 0, "the constructor takes something");
        Set<String> found = new TreeSet<>();
        Set<String> publicNames = new HashSet<>();
        Set<String> privateNames = new HashSet<>();
        for (Method m : type.getDeclaredMethods()) {
            if (Modifier.isPublic(m.getModifiers())) {
                found.add(signature(m));
                publicNames.add(m.getName());
            } else {
                need(Modifier.isPrivate(m.getModifiers()), "not public and not private: " + m);
                privateNames.add(m.getName());
            }
        }
        need(found.equals(new TreeSet<>(Set.of(FACE))), "another face: " + found);
        privateNames.retainAll(publicNames);
        need(privateNames.isEmpty(), "private methods with a public one's name: " + privateNames);
    }

    private static String signature(Method m) {
        StringBuilder told = new StringBuilder();
        told.append(m.getReturnType().getName()).append(' ').append(m.getName()).append('(');
        String between = "";
        for (Class<?> parameter : m.getParameterTypes()) {
            told.append(between).append(parameter.getName());
            between = ",";
        }
        told.append(')');
        for (Class<?> thrown : m.getExceptionTypes()) {
            told.append(" throws ").append(thrown.getName());
        }
        return told.toString();
    }

    private static void none() {
        Set<String> found = new TreeSet<>();
        for (Field f : NightRiders.class.getFields()) {
            found.add(Modifier.toString(f.getModifiers()) + " " + f.getType() + " " + f.getName());
        }
        need(found.equals(Set.of("public static final int NONE")), "another public field: " + found);
        need(NightRiders.NONE == -1, "NONE is " + NightRiders.NONE);
        need(NightRiders.class.getInterfaces().length == 0, "it implements something");
        need(NightRiders.class.getSuperclass() == Object.class, "it extends something");
        need(NightRiders.class.getPackageName().isEmpty(), "it has a package");
    }

    private static void fields() {
        int own = 0;
        for (Field f : NightRiders.class.getDeclaredFields()) {
            boolean isNone = f.getName().equals("NONE");
            need(Modifier.isPublic(f.getModifiers()) == isNone, "public or not: " + f);
            need(isNone || Modifier.isPrivate(f.getModifiers()), "not private: " + f);
            need(!Modifier.isStatic(f.getModifiers()) || Modifier.isFinal(f.getModifiers()), "static and not final: " + f);
            own += Modifier.isStatic(f.getModifiers()) ? 0 : 1;
        }
        need(own <= 20, own + " fields");
    }

    private static void nestedClasses() {
        Class<?>[] nested = NightRiders.class.getDeclaredClasses();
        need(nested.length <= 11, nested.length + " classes inside");
        for (Class<?> type : nested) {
            int modifiers = type.getModifiers();
            need(!Modifier.isPublic(modifiers) && Modifier.isStatic(modifiers), "public or not static: " + type);
            need(type.getDeclaredFields().length <= 20, "too many fields: " + type);
            parameters(type);
        }
        parameters(NightRiders.class);
    }

    private static void parameters(Class<?> type) {
        for (Method m : type.getDeclaredMethods()) {
            need(m.getParameterCount() <= 7, "too many parameters: " + m);
        }
        for (Constructor<?> made : type.getDeclaredConstructors()) {
            need(made.getParameterCount() <= 7, "too many parameters: " + made);
        }
    }

    private static void source(String text) {
        String code = text.replaceAll("(?s)/\\*.*?\\*/", "").replaceAll("//[^\n]*", "");
        for (String pattern : FORBIDDEN) {
            Matcher m = Pattern.compile(pattern).matcher(code);
            need(!m.find(), "the source holds what the rules forbid: " + pattern);
        }
    }

    /** The methods stand in the document's order, and its line "---- calls" between those that it tells. */
    private static void order(String text) {
        int line = text.indexOf("---- calls");
        need(line >= 0 && line == text.lastIndexOf("---- calls"), "not one line of ---- calls");
        int last = 0;
        for (String method : FACE) {
            String name = method.replaceAll("^\\w+ (\\w+)\\(.*", "$1");
            int at = text.indexOf("public " + method.substring(0, method.indexOf('(') + 1));
            need(at > last, "not where the document has it: " + name);
            need(at > line == Set.of(CALLS).contains(name), "not on its side of ---- calls: " + name);
            last = at;
        }
    }
}
