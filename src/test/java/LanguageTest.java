import java.io.IOException;
import java.lang.reflect.Constructor;
import java.lang.reflect.Field;
import java.lang.reflect.Method;
import java.lang.reflect.Modifier;
import java.nio.file.Files;
import java.nio.file.Path;
import java.util.Arrays;
import java.util.List;
import java.util.Set;
import java.util.TreeSet;
import java.util.regex.Pattern;
import java.util.stream.Collectors;

/** What of LANGUAGE.md can be told from the source and the class: the face, and words that may not stand there. */
public final class LanguageTest {
    private static final List<String> FACE = List.of(
        "int person(int)", "int of(int,int)", "int set(int,int,int)", "int turn(int,int)", "int as(int,int)",
        "int grind(int)", "int lend(int,int)", "int looks(int,int)", "int sees(int,int)", "int days(int)",
        "int now(int)", "int on(int,int,int)", "int then(int,int,int)", "int forgives(int)", "int worn(int)",
        "int unseen(int)", "int borrow(int)", "int kind(int)", "int better(int,int)", "int most(int,int)",
        "int sharpest(int)", "int push()", "int feed(int,int)", "int wipe()", "int quay()", "int sheet(int,int,int)",
        "long write(int,int,long)", "int copy(int,int,int,int,int)", "int lays(int)", "int book(int,int)",
        "int read(int,int)", "int image()", "int undo()", "int tear()", "int count(int)", "int status(int)");
    private static final List<String> FORBIDDEN = List.of(
        "\\bthrow\\b", "\\bthrows\\b", "\\btry\\b", "\\bcatch\\b", "\\bsynchronized\\b", "\\bassert\\b", "\\bimport\\b",
        "\\bpackage\\b", "->", "::", "\\bvar\\b", "\\bObject\\b", "\\bfloat\\b", "\\bdouble\\b", "Exact\\b",
        "\\bequals\\b", "\\bhashCode\\b", "\\btoString\\b", "\\bstatic \\{", "\\bnative\\b", "\\bvolatile\\b",
        "System\\.(?!arraycopy\\b)", "\\bprotected\\b");

    public static void main(String[] args) throws IOException {
        face();
        members(GrudgeGlasses.class);
        for (Class<?> inner : GrudgeGlasses.class.getDeclaredClasses()) {
            Due.isTrue(inner + " is static", Modifier.isStatic(inner.getModifiers()));
            Due.isTrue(inner + " is not public", !Modifier.isPublic(inner.getModifiers()));
            members(inner);
        }
        Due.isTrue("at most twelve classes", GrudgeGlasses.class.getDeclaredClasses().length < 12);
        source();
        Due.end();
    }

    private static String told(Method m) {
        return m.getReturnType().getName() + " " + m.getName() + Arrays.stream(m.getParameterTypes())
            .map(Class::getName).collect(Collectors.joining(",", "(", ")"));
    }

    private static void face() {
        Set<String> due = new TreeSet<>(FACE);
        Set<String> publicOnes = new TreeSet<>();
        Set<String> names = new TreeSet<>();
        for (Method m : GrudgeGlasses.class.getDeclaredMethods()) {
            if (Modifier.isPublic(m.getModifiers())) {
                publicOnes.add(told(m));
                names.add(m.getName());
            }
        }
        Due.isTrue("the face is the document's: " + publicOnes, publicOnes.equals(due));
        for (Method m : GrudgeGlasses.class.getDeclaredMethods()) {
            if (!Modifier.isPublic(m.getModifiers())) {
                Due.isTrue(m + " is private", Modifier.isPrivate(m.getModifiers()));
                Due.isTrue(m + " has a name of its own", !names.contains(m.getName()));
            }
        }
        for (Class<?> inner : GrudgeGlasses.class.getDeclaredClasses()) {
            for (Method m : inner.getDeclaredMethods()) {
                Due.isTrue(m + " has a name of its own", !names.contains(m.getName()));
            }
        }
        for (Field f : GrudgeGlasses.class.getDeclaredFields()) {
            Due.isTrue(f + " is private", Modifier.isPrivate(f.getModifiers()));
        }
        Constructor<?>[] makers = GrudgeGlasses.class.getDeclaredConstructors();
        Due.isTrue("one constructor without arguments", makers.length == 1 && makers[0].getParameterCount() == 0);
        Due.isTrue("it is public", Modifier.isPublic(makers[0].getModifiers()));
        Due.isTrue("the class is final", Modifier.isFinal(GrudgeGlasses.class.getModifiers()));
    }

    private static void members(Class<?> c) {
        int fields = 0;
        for (Field f : c.getDeclaredFields()) {
            boolean isStatic = Modifier.isStatic(f.getModifiers());
            fields += isStatic ? 0 : 1;
            Due.isTrue(f + " is final if static", !isStatic || Modifier.isFinal(f.getModifiers()));
        }
        Due.isTrue(c + " has twenty fields at most", fields <= 20);
        for (Method m : c.getDeclaredMethods()) {
            Due.isTrue(m + " takes seven at most", m.getParameterCount() <= 7);
        }
    }

    private static void source() throws IOException {
        String text = Files.readString(Path.of("src/main/java/GrudgeGlasses.java"));
        String code = text.replaceAll("(?s)/\\*.*?\\*/", "").replaceAll("//[^\n]*", "");
        for (String word : FORBIDDEN) {
            Due.isTrue("no " + word, !Pattern.compile(word).matcher(code).find());
        }
        Due.isTrue("signs 1 to 127 alone", text.chars().allMatch(c -> c > 0 && c < 128));
        int begun = 0;
        int line = 0;
        for (String row : text.split("\n")) {
            line++;
            if (row.matches(" +(public |private |static )*[A-Za-z\\[\\]]+ ?[A-Za-z]*\\(.*\\) \\{")) {
                begun = line;
            }
            if (row.matches(" {4}( {4})?\\}") && begun > 0) {
                Due.isTrue("a method of sixty lines at most at " + begun, line - begun < 60);
                begun = 0;
            }
        }
    }
}
