import java.lang.reflect.Constructor;
import java.lang.reflect.Field;
import java.lang.reflect.Method;
import java.lang.reflect.Modifier;
import java.nio.file.Files;
import java.nio.file.Path;
import java.util.Set;
import java.util.TreeSet;
import java.util.regex.Matcher;
import java.util.regex.Pattern;

/** The class has the document's face and no other, and keeps to the rules of LANGUAGE.md that can be seen from outside. */
public final class FaceTest {
    private static final String[] FACE = {
        "int vessel(int)", "int buy(int,int,int,int)", "int move(int,int,int)", "boolean turn(int)",
        "boolean cover(int,boolean)", "int day(int,boolean)", "int cut(int,int,int,int)",
        "int feed(int,int,int,int,int)", "int vote(int)", "int fault()", "boolean end(int)", "int unvote(int)",
        "int premium(int,int)", "int part(int,int)", "int told(int,int)", "int coins(int)", "int entry(int,int)",
        "long worth(int,int,int)", "int force(int)", "int voted(int,int)", "int job(int,int)",
        "boolean places(int,int)", "int planned(int)", "int row(boolean)", "void clear()", "long count(int)"};

    private static final String[] NOT_IN_THE_LANGUAGE = {
        "\\b(throws?|try|catch|synchronized|assert|hashCode|Object|Thread|Random)\\b", "::", "\\bimport static\\b",
        "\\bSystem\\.(?!arraycopy\\b)", "\\w+Exact\\b", "\\bstatic \\{"};

    private static final Set<String> IMPORTS = Set.of(
        "java.util.Arrays", "java.util.ArrayList", "java.util.List", "java.util.Iterator");

    public static void main(String[] args) throws Exception {
        face();
        classes();
        words();
        Due.finish();
    }

    private static void face() {
        Set<String> want = new TreeSet<>(Set.of(FACE));
        Set<String> names = new TreeSet<>();
        Set<String> got = new TreeSet<>();
        for (Method m : CocoaYard.class.getDeclaredMethods()) {
            if (Modifier.isPublic(m.getModifiers())) {
                String whole = m.toGenericString();
                got.add(m.getReturnType() + " " + m.getName() + whole.substring(whole.indexOf('(')));
                names.add(m.getName());
                Due.due("static " + m, Modifier.isStatic(m.getModifiers()), false);
            }
        }
        if (!got.equals(want)) {
            System.out.println("the face is " + got);
        }
        Due.due("the face", got.equals(want), true);
        for (Method m : CocoaYard.class.getDeclaredMethods()) {
            if (!Modifier.isPublic(m.getModifiers()) && !m.isSynthetic()) {
                Due.due("private " + m, Modifier.isPrivate(m.getModifiers()), true);
                Due.due("bears a public name: " + m, names.contains(m.getName()), false);
            }
        }
        Constructor<?>[] made = CocoaYard.class.getDeclaredConstructors();
        Due.due("constructors", made.length, 1);
        Due.due("public", Modifier.isPublic(made[0].getModifiers()) && made[0].getParameterCount() == 0, true);
        Due.due("final", Modifier.isFinal(CocoaYard.class.getModifiers()), true);
    }

    private static void classes() {
        int isOpen = 0;
        for (Field f : CocoaYard.class.getDeclaredFields()) {
            isOpen += Modifier.isPrivate(f.getModifiers()) ? 0 : 1;
        }
        Due.due("fields that are not private (NONE)", isOpen, 1);
        for (Class<?> c : CocoaYard.class.getDeclaredClasses()) {
            Due.due("static " + c, Modifier.isStatic(c.getModifiers()), true);
            Due.due("open " + c, Modifier.isPublic(c.getModifiers()) || Modifier.isProtected(c.getModifiers()), false);
            noLambdas(c);
        }
        noLambdas(CocoaYard.class);
        Due.due("at most twelve classes", CocoaYard.class.getDeclaredClasses().length < 12, true);
    }

    private static void noLambdas(Class<?> c) {
        for (Method m : c.getDeclaredMethods()) {
            Due.due("a lambda: " + m, m.getName().startsWith("lambda$"), false);
        }
    }

    private static void words() throws Exception {
        String source = Files.readString(Path.of("src/main/java/CocoaYard.java"))
                .replaceAll("(?s)/\\*.*?\\*/", " ").replaceAll("//[^\n]*", " ");
        for (String words : NOT_IN_THE_LANGUAGE) {
            Matcher m = Pattern.compile(words).matcher(source);
            Due.due("the source has " + words, m.find(), false);
        }
        Matcher imports = Pattern.compile("import ([\\w.*]+);").matcher(source);
        while (imports.find()) {
            Due.due("import " + imports.group(1), IMPORTS.contains(imports.group(1)), true);
        }
    }
}
