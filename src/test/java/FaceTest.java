import java.io.IOException;
import java.lang.reflect.Constructor;
import java.lang.reflect.Field;
import java.lang.reflect.Method;
import java.lang.reflect.Modifier;
import java.nio.file.Files;
import java.nio.file.Path;
import java.util.HashSet;
import java.util.Set;
import java.util.TreeSet;
import java.util.regex.Matcher;
import java.util.regex.Pattern;

// The face of the document, member by member, and those rules of LANGUAGE.md that can be seen from the text.
public final class FaceTest {
    private static final String[] FACE = {
        "int rain(int)", "int hill(int, int)", "int of(int, int)", "int change(int, int, int)",
        "int valley(int, int)", "int go(int)", "int now(int)", "int ahead(int, int, int)", "int when(int, int)",
        "int meet(int, int)", "int round()", "int skylines(int, int)", "int wallflowers(int)",
        "int stand(int, int)", "int stepFor(int, int)", "int turnFor(int, int)", "int kindFor(int, int)",
        "int rainFor(int, int, int)", "int road(int, int, int)", "int climb(int, int)",
        "int open(int, int, int, int)", "int lay(int, int, int)", "int fits(int, int)", "int step(int, int)",
        "int kinds(int, int)", "int rains(int)", "long odds(int, int)", "int seed(int)", "int feed(int, int)",
        "int wipe()", "int text()", "int hold(int, int)", "int as(int, int)", "int sheet(int, int, int)",
        "int write(int, int, int)", "int copy(int, int, int, int, int)", "int load(int)", "int judge(int)",
        "int image()", "int undo()", "int tear()", "int count(int)", "int status(int)"};

    private static int wrong = 0;

    private static void need(boolean good, String what) {
        if (!good) {
            wrong++;
            System.out.println(what);
        }
    }

    private static String signature(Method m) {
        StringBuilder text = new StringBuilder(m.getReturnType().getName());
        text.append(' ').append(m.getName()).append('(');
        Class<?>[] types = m.getParameterTypes();
        for (int i = 0; i < types.length; i++) {
            text.append(i > 0 ? ", " : "").append(types[i].getName());
        }
        return text.append(')').toString();
    }

    private static void face() {
        int modifiers = HillDance.class.getModifiers();
        need(Modifier.isPublic(modifiers) && Modifier.isFinal(modifiers), "the class is public and final");
        Constructor<?>[] constructors = HillDance.class.getDeclaredConstructors();
        need(constructors.length == 1 && Modifier.isPublic(constructors[0].getModifiers())
            && constructors[0].getParameterCount() == 0, "one public constructor without parameters");
        Set<String> due = new TreeSet<>(Set.of(FACE));
        for (Method m : HillDance.class.getDeclaredMethods()) {
            boolean isDue = due.remove(signature(m));
            boolean isPublic = m.getModifiers() == Modifier.PUBLIC;
            need(isDue ? isPublic : Modifier.isPrivate(m.getModifiers()), "public or private: " + m);
            need(m.getExceptionTypes().length == 0, "no throws: " + m);
        }
        need(due.isEmpty(), "missing: " + due);
        for (Field f : HillDance.class.getDeclaredFields()) {
            need(Modifier.isPrivate(f.getModifiers()), "private: " + f);
        }
    }

    private static void classesInside() {
        Set<String> publicNames = new HashSet<>();
        for (String signature : FACE) {
            publicNames.add(signature.substring(signature.indexOf(' ') + 1, signature.indexOf('(')));
        }
        for (Class<?> c : HillDance.class.getDeclaredClasses()) {
            need(Modifier.isStatic(c.getModifiers()), "static: " + c);
            for (Method m : c.getDeclaredMethods()) {
                need(!publicNames.contains(m.getName()), "bears the name of a public one: " + m);
                need(m.getParameterCount() <= 7, "seven parameters at most: " + m);
            }
        }
        for (Method m : HillDance.class.getDeclaredMethods()) {
            need(!Modifier.isPrivate(m.getModifiers()) || !publicNames.contains(m.getName()),
                "bears the name of a public one: " + m);
        }
    }

    private static void words() throws IOException {
        String source = Files.readString(Path.of("src/main/java/HillDance.java"));
        String bare = source.replaceAll("(?s)/\\*.*?\\*/", "").replaceAll("//[^\n]*", "")
            .replaceAll("\"[^\"\n]*\"", "\"\"");
        Matcher m = Pattern.compile("\\b(throw|throws|try|catch|finally|synchronized|assert|transient|volatile|native"
            + "|Object|Exception|System\\.(?!arraycopy\\b)\\w+|Random|Thread|Map|HashMap|Set|\\w+Exact"
            + "|package|var|yield)\\b|->|::|@").matcher(bare);
        while (m.find()) {
            need(false, "not in the language: " + m.group());
        }
        Matcher imports = Pattern.compile("import ([^;]+);").matcher(bare);
        while (imports.find()) {
            need(Set.of("java.util.Arrays", "java.util.ArrayList", "java.util.List", "java.util.Iterator")
                .contains(imports.group(1)), "import " + imports.group(1));
        }
        for (int i = 0; i < source.length(); i++) {
            char c = source.charAt(i);
            need(c < 127, "a sign above 126 at " + i);
        }
    }

    private static void lengths() throws IOException {
        int begin = 0;
        int line = 0;
        String indent = "";
        for (String text : Files.readAllLines(Path.of("src/main/java/HillDance.java"))) {
            line++;
            if (begin == 0 && text.matches(" +(private|public|static|void|int|long|boolean|String)[^;=]*\\([^;]*")) {
                begin = line;
                indent = text.substring(0, text.length() - text.stripLeading().length());
            } else if (begin > 0 && text.equals(indent + "}")) {
                need(line - begin < 60, "longer than sixty lines: the method at line " + begin);
                begin = 0;
            }
        }
        need(begin == 0, "a method without an end at line " + begin);
    }

    public static void main(String[] args) throws IOException {
        face();
        classesInside();
        words();
        lengths();
        System.out.println(wrong == 0 ? "the face and the language are kept" : wrong + " rules are not kept");
        if (wrong != 0) {
            System.exit(1);
        }
    }
}
