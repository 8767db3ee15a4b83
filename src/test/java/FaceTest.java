import java.io.IOException;
import java.lang.reflect.Constructor;
import java.lang.reflect.Field;
import java.lang.reflect.Method;
import java.lang.reflect.Modifier;
import java.nio.file.Files;
import java.nio.file.Path;
import java.util.Set;
import java.util.TreeSet;
import java.util.regex.Matcher;
import java.util.regex.Pattern;

/** The public face as the document has it, and the rules of LANGUAGE.md that can be seen from outside. */
public final class FaceTest {
    private static final Check CHECK = new Check();
    private static final String[] FACE = {
        "int letter(int)", "int house()", "int eater(int,int)", "int stock(int,int)", "int open(int,int)",
        "int set(int,int)", "int worth(int,int)", "int dayOn()", "int total(int,int)", "int left(int,int)",
        "int never()", "int out(int)", "int less(int)", "int best(int)", "int buying(int)", "int close()",
        "int half(int)", "int pays(int)", "long mean(int)", "int likes(int)", "int whose(int)", "int share()",
        "int bottles(int)", "int row(int)", "int fits()", "int judge()", "int lots(int,int)", "int image()",
        "int on()", "int count(int)"};

    public static void main(String[] args) throws IOException {
        face();
        classesInside();
        String source = Files.readString(Path.of("src/main/java/AlwaysYesterdays.java"));
        words(source);
        shortMethods(source);
        joinsNoTexts(source);
        CHECK.end("FaceTest");
    }

    private static String shape(Method m) {
        StringBuilder s = new StringBuilder(m.getReturnType().getName()).append(' ').append(m.getName()).append('(');
        for (Class<?> p : m.getParameterTypes()) {
            s.append(s.charAt(s.length() - 1) == '(' ? "" : ",").append(p.getName());
        }
        return s.append(')').toString();
    }

    private static void face() {
        CHECK.promise("rule 1");
        Class<?> c = AlwaysYesterdays.class;
        CHECK.that("public and final", c.getModifiers() == (Modifier.PUBLIC | Modifier.FINAL));
        Set<String> due = new TreeSet<>(Set.of(FACE));
        Set<String> names = new TreeSet<>();
        for (String method : FACE) {
            names.add(method.substring(method.indexOf(' ') + 1, method.indexOf('(')));
        }
        for (Method m : c.getDeclaredMethods()) {
            if (m.getModifiers() == Modifier.PUBLIC) {
                CHECK.that(shape(m) + " is of the face", due.remove(shape(m)));
            } else {
                CHECK.that(m + " is private", Modifier.isPrivate(m.getModifiers()));
                CHECK.that(m + " bears no public one's name", !names.contains(m.getName()));
            }
        }
        CHECK.that("missing: " + due, due.isEmpty());
        Constructor<?>[] made = c.getDeclaredConstructors();
        CHECK.that("one constructor", made.length == 1 && made[0].getParameterCount() == 0
                && made[0].getModifiers() == Modifier.PUBLIC);
        for (Field f : c.getDeclaredFields()) {
            CHECK.that(f + " is private", Modifier.isPrivate(f.getModifiers()));
        }
    }

    private static void classesInside() {
        CHECK.promise("rules 2, 5, 11");
        Class<?>[] inside = AlwaysYesterdays.class.getDeclaredClasses();
        CHECK.that("some twelve classes at most", inside.length <= 11);
        for (Class<?> c : inside) {
            CHECK.that(c + " is static", Modifier.isStatic(c.getModifiers()));
            CHECK.that(c + " is not of the face", !Modifier.isPublic(c.getModifiers()) && !Modifier.isProtected(c.getModifiers()));
            fields(c);
        }
        fields(AlwaysYesterdays.class);
    }

    private static void fields(Class<?> c) {
        int own = 0;
        for (Field f : c.getDeclaredFields()) {
            if (Modifier.isStatic(f.getModifiers())) {
                CHECK.that(f + " is final", Modifier.isFinal(f.getModifiers()));
            } else {
                own++;
            }
        }
        CHECK.that(c + " has some twenty fields at most", own <= 20);
        for (Method m : c.getDeclaredMethods()) {
            CHECK.that(m + " takes at most seven", m.getParameterCount() <= 7);
        }
    }

    private static void words(String source) {
        CHECK.promise("rules 4, 6, 13");
        String code = source.replaceAll("(?s)/\\*.*?\\*/", " ").replaceAll("//[^\n]*", " ")
                .replaceAll("\"[^\"\n]*\"", "\"\"").replaceAll("'[^'\n]'", "' '");
        Matcher m = Pattern.compile("\\b(throw|try|catch|finally|synchronized|assert|throws|var|Object|Exception)\\b|->|::")
                .matcher(code);
        while (m.find()) {
            CHECK.that("'" + m.group() + "' is not among the rules", false);
        }
        Matcher imports = Pattern.compile("(?m)^import (.*);$").matcher(source);
        while (imports.find()) {
            CHECK.that("import " + imports.group(1), imports.group(1).matches("java\\.util\\.(Arrays|ArrayList|List)"));
        }
        CHECK.that("signs 1 to 127 alone", source.chars().allMatch(c -> c >= 1 && c <= 127));
        Matcher library = Pattern.compile("\\b(Math|Arrays|System|Integer|Long|String)\\.(\\w+)").matcher(code);
        while (library.find()) {
            CHECK.that(library.group() + " is of the library's part",
                Set.of("Math.max", "Math.min", "Math.abs", "Arrays.fill", "System.arraycopy").contains(library.group()));
        }
    }

    private static void shortMethods(String source) {
        CHECK.promise("rule 11");
        Matcher m = Pattern.compile("(?ms)^((?: {4}){1,2})(?! )[^\n=;]*\\b(\\w+)\\([^\n;]*\\) \\{$.*?^\\1\\}$").matcher(source);
        int methods = 0;
        while (m.find()) {
            methods++;
            long lines = m.group().lines().count();
            CHECK.that(m.group(2) + " has " + lines + " lines, some sixty at most", lines <= 60);
        }
        CHECK.that("its methods are seen: " + methods, methods >= FACE.length);
    }

    private static void joinsNoTexts(String source) {
        CHECK.promise("rule 10");
        CHECK.that("no text is joined by +", !Pattern.compile("\"\\s*\\+|\\+=?\\s*\"").matcher(source).find());
    }
}
