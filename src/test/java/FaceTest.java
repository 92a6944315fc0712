import java.lang.reflect.Constructor;
import java.lang.reflect.Field;
import java.lang.reflect.Method;
import java.lang.reflect.Modifier;
import java.nio.file.Files;
import java.nio.file.Path;
import java.util.Set;
import java.util.TreeSet;
import java.util.regex.Matcher;
import java.util.regex.Pattern;

/** The class has the document's face and no other, and keeps to the rules of LANGUAGE.md that can be seen from outside. */
public final class FaceTest {
    private static final String[] FACE = {
        "int vessel(int)", "int buy(int,int,int,int)", "int move(int,int,int)", "boolean turn(int)",
        "boolean cover(int,boolean)", "int day(int,boolean)", "int cut(int,int,int,int)",
        "int feed(int,int,int,int,int)", "int vote(int)", "int fault()", "boolean end(int)", "int unvote(int)",
        "int premium(int,int)", "int part(int,int)", "int told(int,int)", "int coins(int)", "int entry(int,int)",
        "long worth(int,int,int)", "int force(int)", "int voted(int,int)", "int job(int,int)",
        "boolean places(int,int)", "int planned(int)", "int row(boolean)", "void clear()", "long count(int)"};

    private static final String[] NOT_IN_THE_LANGUAGE = {
        "throw", "throws", "try", "catch", "synchronized", "assert", "volatile", "transient", "native",
        "hashCode", "toString", "var", "Object", "System.out", "Exact", "->", "::", "import static"};

    public static void main(String[] args) throws Exception {
        face();
        classes();
        words();
        Due.finish();
    }

    private static void face() {
        Set<String> want = new TreeSet<>(Set.of(FACE));
        Set<String> names = new TreeSet<>();
        Set<String> got = new TreeSet<>();
        for (Method m : CocoaYard.class.getDeclaredMethods()) {
            if (Modifier.isPublic(m.getModifiers())) {
                String whole = m.toGenericString();
                got.add(m.getReturnType() + " " + m.getName() + whole.substring(whole.indexOf('(')));
                names.add(m.getName());
                Due.due("static " + m, Modifier.isStatic(m.getModifiers()), false);
            }
        }
        if (!got.equals(want)) {
            System.out.println("the face is " + got);
        }
        Due.due("the face", got.equals(want), true);
        for (Method m : CocoaYard.class.getDeclaredMethods()) {
            if (!Modifier.isPublic(m.getModifiers())) {
                Due.due("private " + m, Modifier.isPrivate(m.getModifiers()), true);
                Due.due("bears a public name: " + m, names.contains(m.getName()), false);
            }
        }
        Constructor<?>[] made = CocoaYard.class.getDeclaredConstructors();
        Due.due("constructors", made.length, 1);
        Due.due("public", Modifier.isPublic(made[0].getModifiers()) && made[0].getParameterCount() == 0, true);
        Due.due("final", Modifier.isFinal(CocoaYard.class.getModifiers()), true);
    }

    private static void classes() {
        int isOpen = 0;
        for (Field f : CocoaYard.class.getDeclaredFields()) {
            isOpen += Modifier.isPrivate(f.getModifiers()) ? 0 : 1;
        }
        Due.due("fields that are not private (NONE)", isOpen, 1);
        for (Class<?> c : CocoaYard.class.getDeclaredClasses()) {
            Due.due("static " + c, Modifier.isStatic(c.getModifiers()), true);
            Due.due("private " + c, Modifier.isPrivate(c.getModifiers()), true);
        }
        Due.due("at most twelve classes", CocoaYard.class.getDeclaredClasses().length < 12, true);
    }

    private static void words() throws Exception {
        String source = Files.readString(Path.of("src/main/java/CocoaYard.java"))
                .replaceAll("(?s)/\\*.*?\\*/", " ").replaceAll("//[^\n]*", " ");
        for (String word : NOT_IN_THE_LANGUAGE) {
            boolean isName = Character.isLetter(word.charAt(0));
            Matcher m = Pattern.compile(isName ? "\\b" + Pattern.quote(word) + "\\b" : Pattern.quote(word)).matcher(source);
            Due.due("the source has '" + word + "'", m.find(), false);
        }
        Matcher imports = Pattern.compile("import ([\\w.]+);").matcher(source);
        while (imports.find()) {
            Due.due("import " + imports.group(1), imports.group(1).equals("java.util.Arrays"), true);
        }
    }
}
