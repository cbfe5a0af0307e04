import java.lang.reflect.Constructor;
import java.lang.reflect.Field;
import java.lang.reflect.Method;
import java.lang.reflect.Modifier;
import java.util.Arrays;
import java.util.List;
import java.util.Set;
import java.util.TreeSet;

/** What can be seen of LANGUAGE.md in the compiled class: the face, the classes inside, the library that is used. */
public final class TossGroundLanguageTest {
    static int wrong = 0;
    static int asked = 0;

    /** The document's declarations, the exceptions in its order: that order is the one in which they are thrown. */
    static final String[] FACE = {
        "int feed(int,int,int,int,int)",
        "boolean end(int)",
        "int ground() throws IllegalArgumentException, UnsupportedOperationException",
        "int law() throws IllegalArgumentException",
        "int fault()",
        "int side(int,boolean) throws IndexOutOfBoundsException",
        "int slot(int,int,boolean) throws IndexOutOfBoundsException",
        "int session(int,int) throws IndexOutOfBoundsException, NoSuchElementException",
        "int level(int,int,int) throws IndexOutOfBoundsException",
        "int match(int) throws NoSuchElementException",
        "int toss(int) throws IndexOutOfBoundsException, IllegalStateException",
        "int play() throws IllegalStateException",
        "int bring(int) throws IndexOutOfBoundsException, IllegalStateException",
        "int hold(int) throws IndexOutOfBoundsException, IllegalStateException",
        "int declare() throws IllegalStateException",
        "int follow() throws IllegalStateException",
        "int anew()",
        "long here(int) throws IllegalStateException, NoSuchElementException",
        "long worth(int,int) throws IndexOutOfBoundsException, NoSuchElementException",
        "long evens(int) throws IndexOutOfBoundsException",
        "int well()",
        "long after(int,int) throws IndexOutOfBoundsException, IllegalStateException, NoSuchElementException",
        "int turning(boolean) throws IllegalStateException",
        "long wins(int,int,boolean,int,int,int) throws IndexOutOfBoundsException, IllegalArgumentException, NoSuchElementException",
        "boolean declares(int,int,boolean,int,int) throws IndexOutOfBoundsException, IllegalArgumentException",
        "int when(int,int) throws IndexOutOfBoundsException, IllegalArgumentException",
        "boolean enforces(int,int) throws IndexOutOfBoundsException, IllegalArgumentException",
        "int chased(int) throws IndexOutOfBoundsException",
        "boolean holds(int,boolean,int,int) throws IndexOutOfBoundsException, IllegalArgumentException",
        "int turnover(int,int) throws IndexOutOfBoundsException, IllegalArgumentException",
        "int line(int,int,boolean,int,int) throws IndexOutOfBoundsException, IllegalArgumentException",
        "long cost(int) throws IllegalArgumentException, IllegalStateException",
        "int swing() throws IllegalStateException, IllegalArgumentException",
        "int book(int) throws NoSuchElementException",
        "int share(int,int) throws NoSuchElementException",
        "boolean habit(boolean)",
        "int signs(int,int,boolean) throws IllegalArgumentException",
        "int best(boolean,boolean) throws IllegalArgumentException",
        "long blind(int) throws IllegalStateException, NoSuchElementException",
        "int target(boolean) throws IllegalStateException",
        "int streak(int) throws NoSuchElementException",
        "int table(int,int,int,boolean) throws IndexOutOfBoundsException",
        "int form(int,int) throws IndexOutOfBoundsException, IllegalArgumentException",
        "int hardest(int,int) throws IndexOutOfBoundsException",
        "int log(int,int) throws NoSuchElementException",
        "int seed(int)",
        "boolean undo()",
        "void image()",
        "boolean back()",
        "int count(int)"};

    static final List<String> LIBRARY = Arrays.asList("java/lang/Object.<init>", "java/lang/Math.min", "java/lang/Math.max", "java/lang/Math.abs",
        "java/lang/Long.compare", "java/lang/String.length", "java/lang/String.charAt", "java/lang/IllegalStateException.<init>",
        "java/lang/IllegalArgumentException.<init>", "java/lang/IndexOutOfBoundsException.<init>", "java/lang/UnsupportedOperationException.<init>",
        "java/util/NoSuchElementException.<init>");

    static void must(boolean holds, String what) {
        asked++;
        if (!holds) {
            wrong++;
            System.out.println("not so: " + what);
        }
    }

    static String written(Method m) {
        StringBuilder s = new StringBuilder(m.getReturnType().getName()).append(' ').append(m.getName()).append('(');
        Class<?>[] types = m.getParameterTypes();
        for (int i = 0; i < types.length; i++) s.append(i == 0 ? "" : ",").append(types[i].getName());
        s.append(')');
        Class<?>[] thrown = m.getExceptionTypes();
        for (int i = 0; i < thrown.length; i++) s.append(i == 0 ? " throws " : ", ").append(thrown[i].getSimpleName());
        return s.toString();
    }

    static void face(Class<?> c) {
        Set<String> due = new TreeSet<>(Arrays.asList(FACE));
        Set<String> names = new TreeSet<>();
        for (String s : FACE) names.add(s.substring(s.indexOf(' ') + 1, s.indexOf('(')));
        Set<String> got = new TreeSet<>();
        must(Modifier.isFinal(c.getModifiers()) && Modifier.isPublic(c.getModifiers()), "the class is public and final");
        for (Method m : c.getDeclaredMethods()) {
            if (Modifier.isPrivate(m.getModifiers())) must(!names.contains(m.getName()), "private " + m.getName() + " bears no public name");
            else got.add(written(m));
        }
        for (String s : due) must(got.contains(s), "the face has: " + s);
        for (String s : got) must(due.contains(s), "the document has: " + s);
        for (Constructor<?> k : c.getDeclaredConstructors()) {
            must(Modifier.isPublic(k.getModifiers()) && k.getParameterCount() == 0, "one constructor");
            must(k.getExceptionTypes().length == 0, "the constructor declares no exception");
        }
        for (Field f : c.getDeclaredFields()) must(Modifier.isPrivate(f.getModifiers()) || f.getName().equals("NONE"), f.getName() + " is private");
        for (Class<?> n : c.getDeclaredClasses()) {
            must(Modifier.isStatic(n.getModifiers()) && !Modifier.isPublic(n.getModifiers()), n.getName() + " is static, not public");
            for (Method m : n.getDeclaredMethods()) must(!names.contains(m.getName()), n.getName() + "." + m.getName() + " bears no public name");
        }
        must(c.getDeclaredClasses().length + 1 <= 12, "at most twelve classes");
    }

    static void insides(Class<?> c) {
        int fields = 0;
        for (Field f : c.getDeclaredFields()) {
            if (Modifier.isStatic(f.getModifiers())) must(Modifier.isFinal(f.getModifiers()), "static " + f.getName() + " is final");
            else fields++;
        }
        must(fields <= 20, c.getName() + " has at most twenty fields, not " + fields);
        for (Method m : c.getDeclaredMethods()) must(m.getParameterCount() <= 7, m.getName() + " takes at most seven");
    }

    /** Every method of another class that the constant pool names. */
    static void library(TossGroundClassFile c) {
        must(!c.dynamic, c.file + ": nothing dynamic (lambdas, joined texts)");
        for (String member : c.members) {
            must(member.startsWith("TossGround") || LIBRARY.contains(member), c.file + ": " + member + " is of the library");
        }
    }

    public static void main(String[] args) throws Exception {
        Class<?> c = TossGround.class;
        face(c);
        insides(c);
        for (Class<?> n : c.getDeclaredClasses()) insides(n);
        List<TossGroundClassFile> files = TossGroundClassFile.all();
        must(files.size() == c.getDeclaredClasses().length + 1, "the compiled classes are there");
        for (TossGroundClassFile f : files) library(f);
        System.out.println(wrong == 0 ? "all " + asked + " are so" : wrong + " of " + asked + " are not so");
        if (wrong != 0) System.exit(1);
    }
}
