import java.lang.reflect.Constructor;
import java.lang.reflect.Field;
import java.lang.reflect.Method;
import java.lang.reflect.Modifier;
import java.nio.file.Files;
import java.nio.file.Path;
import java.util.ArrayList;
import java.util.List;
import java.util.Set;
import java.util.TreeSet;
import java.util.regex.Matcher;
import java.util.regex.Pattern;

/** The rules of LANGUAGE.md that can be seen without reading: the face, and words that may not stand. */
public final class LanguageTest {
    private static final String[] FACE = {
        "int score(int,int)", "int bell(int,int)", "int now(int)", "int who(int)",
        "int person(int,int)", "int of(int,int)", "int set(int,int,int)", "int turn(int,int)",
        "int as(int,int)", "int minutes(int)", "int on(int,int,int)", "int harmony(int)",
        "int comes(int,int)", "int plays(int)", "int meet(int,int)", "int begin(int,int)",
        "int kind(int,int)", "int quick(int,int,int)", "int compose(int,int)", "int deceive(int,int)",
        "int worst(int)", "int feed(int,int)", "int wipe()", "int interval()",
        "int sheet(int,int,int)", "long write(int,int,long)", "int copy(int,int,int,int,int)",
        "int lays(int)", "int book(int,int)", "int read(int,int)", "int image()", "int undo()",
        "int tear()", "int count(int)", "int status(int)"};
    private static final String[] FORBIDDEN = {
        "\\bthrow\\b", "\\bthrows\\b", "\\btry\\b", "\\bcatch\\b", "\\bfinally\\b", "\\bsynchronized\\b",
        "\\bassert\\b", "->", "::", "\\w+Exact\\b", "\\bpackage\\b", "\\bstatic\\s*\\{", "@\\w+", "\\bvar\\b",
        "\\b(hashCode|toString)\\b", "\\b(MIN|MAX)_VALUE\\b", "\\bThread\\b", "\\bRandom\\b", "\\bnanoTime\\b"};
    private static int wrong = 0;

    public static void main(String[] args) throws Exception {
        faceIsTheDocuments();
        innerNamesAreFree();
        wordsAreAllowed();
        System.out.println(wrong == 0 ? "the program keeps to the rules looked at" : wrong + " rules broken");
        if (wrong != 0) {
            System.exit(1);
        }
    }

    private static void refuse(String what) {
        wrong++;
        System.out.println(what);
    }

    private static void faceIsTheDocuments() {
        Class<?> c = ComposedInterval.class;
        Set<String> open = new TreeSet<>();
        for (Method m : c.getDeclaredMethods()) {
            if (Modifier.isPublic(m.getModifiers())) {
                open.add(signature(m));
            } else if (!Modifier.isPrivate(m.getModifiers())) {
                refuse("not private: " + m);
            }
        }
        Set<String> due = new TreeSet<>(List.of(FACE));
        if (!open.equals(due)) {
            refuse("the face is " + open + ", due is " + due);
        }
        for (Field f : c.getDeclaredFields()) {
            if (!Modifier.isPrivate(f.getModifiers())) {
                refuse("not private: " + f);
            }
        }
        Constructor<?>[] made = c.getDeclaredConstructors();
        boolean one = made.length == 1 && made[0].getParameterCount() == 0;
        if (!one || !Modifier.isPublic(made[0].getModifiers()) || !Modifier.isFinal(c.getModifiers())) {
            refuse("the class is not final with one public constructor");
        }
    }

    private static String signature(Method m) {
        List<String> types = new ArrayList<>();
        for (Class<?> t : m.getParameterTypes()) {
            types.add(t.getName());
        }
        return m.getReturnType().getName() + " " + m.getName() + "(" + String.join(",", types) + ")";
    }

    /** No private method bears a public one's name; classes inside are static and hold few fields. */
    private static void innerNamesAreFree() {
        Set<String> names = new TreeSet<>();
        for (String f : FACE) {
            names.add(f.substring(f.indexOf(' ') + 1, f.indexOf('(')));
        }
        for (Method m : ComposedInterval.class.getDeclaredMethods()) {
            if (Modifier.isPrivate(m.getModifiers()) && names.contains(m.getName())) {
                refuse("bears a public name: " + m);
            }
        }
        Class<?>[] inside = ComposedInterval.class.getDeclaredClasses();
        if (inside.length > 11) {
            refuse("too many classes: " + inside.length);
        }
        for (Class<?> c : inside) {
            if (!Modifier.isStatic(c.getModifiers())) {
                refuse("not static: " + c);
            }
            for (Method m : c.getDeclaredMethods()) {
                if (names.contains(m.getName())) {
                    refuse("bears a public name: " + m);
                }
            }
        }
    }

    private static void wordsAreAllowed() throws Exception {
        String source = Files.readString(Path.of("src/main/java/ComposedInterval.java"));
        for (int i = 0; i < source.length(); i++) {
            if (source.charAt(i) > 127) {
                refuse("a sign above 127 at " + i);
            }
        }
        String code = source.replaceAll("(?s)/\\*.*?\\*/", "").replaceAll("//[^\\n]*", "");
        for (String f : FORBIDDEN) {
            Matcher m = Pattern.compile(f).matcher(code);
            if (m.find()) {
                refuse("may not stand: " + m.group());
            }
        }
        Matcher imports = Pattern.compile("import ([^;]+);").matcher(code);
        while (imports.find()) {
            if (!imports.group(1).equals("java.util.Arrays")) {
                refuse("imported: " + imports.group(1));
            }
        }
    }
}
