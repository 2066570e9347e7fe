import java.io.IOException;
import java.lang.reflect.Constructor;
import java.lang.reflect.Field;
import java.lang.reflect.Method;
import java.lang.reflect.Modifier;
import java.nio.file.Files;
import java.nio.file.Path;
import java.util.HashSet;
import java.util.Set;
import java.util.TreeSet;
import java.util.regex.Matcher;
import java.util.regex.Pattern;

/** The public face is the document's, and the source keeps to those rules of LANGUAGE.md that can be seen from here. */
public final class FaceTests {
    private static final String SOURCE = "src/main/java/NightRiders.java";
    private static final String[] FACE = {
        "int place()",
        "boolean road(int,int,int)",
        "int rider(int,int,int,int,int)",
        "int rest(int)",
        "int count(int)",
        "int way(int,int,int)",
        "int of(int,int) throws java.util.NoSuchElementException",
        "int duty(int,int)",
        "int bare(int,int)",
        "int call(int,int,int,int,int)",
        "int best(int)",
        "int send(int)",
        "int told(int,int)",
        "int leg(int,int,int)",
        "int hand(int,int)",
        "int fail(int,int,int)",
        "int next(int,int)",
    };
    private static final String[] FORBIDDEN = {
        "->", "::", "\\bfinally\\b", "\\bcatch\\b", "\\bsynchronized\\b", "\\bassert\\b", "\\bpackage\\b", "\\w+Exact\\b",
        "\\bMap\\b", "\\bSet\\b", "\\bSystem\\.(?!arraycopy)", "\\bRandom\\b", "\\bThread\\b", "\\bprotected\\b",
        "import (?!java\\.util\\.NoSuchElementException;)", "[^\\x00-\\x7F]",
    };
    private static int wrong = 0;

    public static void main(String[] args) throws IOException {
        members();
        fields();
        nestedClasses();
        source(Files.readString(Path.of(SOURCE)));
        System.out.println("FaceTests: " + wrong + " wrong");
        if (wrong != 0) {
            System.exit(1);
        }
    }

    private static void need(boolean kept, String what) {
        if (!kept) {
            wrong++;
            System.out.println(what);
        }
    }

    private static void members() {
        Class<?> type = NightRiders.class;
        need(Modifier.isPublic(type.getModifiers()) && Modifier.isFinal(type.getModifiers()), "the class is not public and final");
        Constructor<?>[] made = type.getDeclaredConstructors();
        need(made.length == 1 && Modifier.isPublic(made[0].getModifiers()), "not the one public constructor");
        need(made.length == 1 && made[0].getParameterCount() == 0, "the constructor takes something");
        Set<String> found = new TreeSet<>();
        Set<String> publicNames = new HashSet<>();
        Set<String> privateNames = new HashSet<>();
        for (Method m : type.getDeclaredMethods()) {
            if (Modifier.isPublic(m.getModifiers())) {
                found.add(signature(m));
                publicNames.add(m.getName());
            } else {
                need(Modifier.isPrivate(m.getModifiers()), "not public and not private: " + m);
                privateNames.add(m.getName());
            }
        }
        need(found.equals(new TreeSet<>(Set.of(FACE))), "another face: " + found);
        privateNames.retainAll(publicNames);
        need(privateNames.isEmpty(), "private methods with a public one's name: " + privateNames);
    }

    private static String signature(Method m) {
        StringBuilder told = new StringBuilder();
        told.append(m.getReturnType().getName()).append(' ').append(m.getName()).append('(');
        String between = "";
        for (Class<?> parameter : m.getParameterTypes()) {
            told.append(between).append(parameter.getName());
            between = ",";
        }
        told.append(')');
        for (Class<?> thrown : m.getExceptionTypes()) {
            told.append(" throws ").append(thrown.getName());
        }
        return told.toString();
    }

    private static void fields() {
        int own = 0;
        for (Field f : NightRiders.class.getDeclaredFields()) {
            boolean isNone = f.getName().equals("NONE");
            need(Modifier.isPublic(f.getModifiers()) == isNone, "public or not: " + f);
            need(isNone || Modifier.isPrivate(f.getModifiers()), "not private: " + f);
            need(!Modifier.isStatic(f.getModifiers()) || Modifier.isFinal(f.getModifiers()), "static and not final: " + f);
            own += Modifier.isStatic(f.getModifiers()) ? 0 : 1;
        }
        need(own <= 20, own + " fields");
    }

    private static void nestedClasses() {
        Class<?>[] nested = NightRiders.class.getDeclaredClasses();
        need(nested.length <= 11, nested.length + " classes inside");
        for (Class<?> type : nested) {
            int modifiers = type.getModifiers();
            need(!Modifier.isPublic(modifiers) && Modifier.isStatic(modifiers), "public or not static: " + type);
            need(type.getDeclaredFields().length <= 20, "too many fields: " + type);
        }
    }

    private static void source(String text) {
        String code = text.replaceAll("(?s)/\\*.*?\\*/", "").replaceAll("//[^\n]*", "");
        for (String pattern : FORBIDDEN) {
            Matcher m = Pattern.compile(pattern).matcher(code);
            need(!m.find(), "the source holds what the rules forbid: " + pattern);
        }
    }
}
