import java.lang.reflect.Constructor;
import java.lang.reflect.Field;
import java.lang.reflect.Method;
import java.lang.reflect.Modifier;
import java.nio.file.Files;
import java.nio.file.Path;
import java.util.TreeSet;

/** The public face, its constants, and words that the program's language leaves out. */
public final class FaceTest {
    private static final String[] FACE = {
        "int feed(int,int,int,int,int)", "int end(int)", "int run()", "int place()", "int count(int)",
        "int term(int,int)", "int asserted(int)", "int check()", "int value(int)", "int core(int)", "int holds(int)",
        "long apart(int,int)", "int write(int)", "int out(int)", "int symbol(int,int)", "int literal(int)",
        "int step(int,int,int)", "int clear()", "int clause(int,int)", "int refuted()", "int sure()"};
    private static final String[] BANNED = {"throw", "throws", "try", "catch", "synchronized", "assert", "protected",
        "record", "sealed", "import static", "->", "::", "Exact(", "System.out", "System.exit"};

    public static void main(String[] args) throws Exception {
        Bench b = new Bench("FaceTest");
        members(b);
        constants(b);
        words(b);
        b.finish();
    }

    private static void members(Bench b) {
        TreeSet<String> want = new TreeSet<>();
        TreeSet<String> names = new TreeSet<>();
        for (String line : FACE) {
            want.add(line);
            names.add(line.substring(line.indexOf(' ') + 1, line.indexOf('(')));
        }
        TreeSet<String> got = new TreeSet<>();
        for (Method m : TheoryCourt.class.getDeclaredMethods()) {
            if (Modifier.isPublic(m.getModifiers())) {
                got.add(told(m));
            } else {
                b.due(m.getName() + " is private", Modifier.isPrivate(m.getModifiers()) ? 1 : 0, 1);
                b.due(m.getName() + " bears no public name", names.contains(m.getName()) ? 1 : 0, 0);
            }
        }
        b.due("the face", got.toString(), want.toString());
        for (Class<?> inside : TheoryCourt.class.getDeclaredClasses()) {
            b.due(inside + " is static", Modifier.isStatic(inside.getModifiers()) ? 1 : 0, 1);
            b.due(inside + " is not public", Modifier.isPublic(inside.getModifiers()) ? 1 : 0, 0);
            for (Method m : inside.getDeclaredMethods()) {
                b.due(inside + "." + m.getName() + " bears no public name", names.contains(m.getName()) ? 1 : 0, 0);
                b.due(inside + "." + m.getName() + " takes seven at most", m.getParameterCount() <= 7 ? 1 : 0, 1);
            }
        }
        Constructor<?>[] makers = TheoryCourt.class.getDeclaredConstructors();
        b.due("one constructor", makers.length, 1);
        b.due("it is public", Modifier.isPublic(makers[0].getModifiers()) ? 1 : 0, 1);
        b.due("the class is final", Modifier.isFinal(TheoryCourt.class.getModifiers()) ? 1 : 0, 1);
    }

    private static String told(Method m) {
        StringBuilder line = new StringBuilder();
        line.append(m.getReturnType()).append(' ').append(m.getName()).append('(');
        for (int i = 0; i < m.getParameterCount(); i++) {
            line.append(i > 0 ? "," : "").append(m.getParameterTypes()[i]);
        }
        return line.append(')').toString();
    }

    private static void constants(Bench b) {
        b.due("NONE", TheoryCourt.NONE, -1);
        b.due("UNSAT", TheoryCourt.UNSAT, -2000000000);
        b.due("FAR", TheoryCourt.FAR, 1000000000000000L);
        TreeSet<String> open = new TreeSet<>();
        for (Field f : TheoryCourt.class.getDeclaredFields()) {
            if (!Modifier.isPrivate(f.getModifiers())) {
                open.add(f.getName());
            }
            boolean fixed = !Modifier.isStatic(f.getModifiers()) || Modifier.isFinal(f.getModifiers());
            b.due(f.getName() + " is no static state", fixed ? 1 : 0, 1);
        }
        b.due("fields that are not private", open.toString(), "[FAR, NONE, UNSAT]");
    }

    private static void words(Bench b) throws Exception {
        String source = Files.readString(Path.of("src/main/java/TheoryCourt.java"));
        String code = source.replaceAll("(?s)/\\*.*?\\*/", " ").replaceAll("//.*", " ").replaceAll("\"[^\"\n]*\"", " ");
        for (String word : BANNED) {
            boolean plain = word.chars().allMatch(Character::isLetter);
            boolean there = plain ? code.matches("(?s).*\\b" + word + "\\b.*") : code.contains(word);
            b.due("the source has " + word, there ? 1 : 0, 0);
        }
        b.due("no package", code.contains("package ") ? 1 : 0, 0);
    }
}
