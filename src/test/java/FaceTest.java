import java.lang.reflect.Constructor;
import java.lang.reflect.Field;
import java.lang.reflect.Method;
import java.lang.reflect.Modifier;
import java.util.TreeSet;

/** The public face as the document has it, with what each method throws, and no other member that can be seen (LANGUAGE.md, rule 1). */
public final class FaceTest {
    private static final Check C = new Check("FaceTest");
    private static final String[] FACE = {
        "public int feed(int a, int b, int c, int d, int e);", "public boolean end(int n);", "public int assemble();",
        "public int told(int what) throws NoSuchElementException;", "public int word(int i) throws NoSuchElementException;",
        "public int label(int i) throws NoSuchElementException;", "public boolean load();", "public boolean key(int k);",
        "public int run(int steps) throws IllegalArgumentException;", "public int state();",
        "public int register(int r) throws NoSuchElementException;", "public boolean set(int r, int v);", "public int peek(int place);",
        "public void poke(int place, int v);", "public int write(int place);", "public int written(int i);", "public int again();",
        "public int printed();", "public int print(int i);", "public int count(int what) throws NoSuchElementException;",
    };

    public static void main(String[] args) {
        TreeSet<String> seen = seenMethods();
        for (String line : FACE) {
            C.sentence("The public face", line);
            C.due("it is there", seen.remove(line.replaceAll("int \\w+(?=[,)])", "int")), true);
        }
        C.sentence("The public face", "public final class SixteenDesk {");
        C.due("its modifiers", Modifier.toString(SixteenDesk.class.getModifiers()), "public final");
        C.due("methods that the document has not", seen.toString(), "[]");
        C.sentence("The public face", "public SixteenDesk();");
        Constructor<?>[] constructors = SixteenDesk.class.getDeclaredConstructors();
        C.due("constructors", constructors.length, 1);
        C.due("the constructor", constructors[0].toString(), "public SixteenDesk()");
        C.sentence("The public face", "public static final int NONE = -1;");
        C.due("NONE", SixteenDesk.NONE, -1);
        fields();
        classesInside();
        C.finish();
    }

    /** The methods that can be seen, as the document writes them, but for the names of their parameters. */
    private static TreeSet<String> seenMethods() {
        TreeSet<String> seen = new TreeSet<>();
        for (Method m : SixteenDesk.class.getDeclaredMethods()) {
            if (!Modifier.isPrivate(m.getModifiers()) && !m.isSynthetic()) {
                seen.add(Modifier.toString(m.getModifiers()) + " " + m.getReturnType().getName() + " " + m.getName() + "("
                    + names(m.getParameterTypes()) + ")" + (m.getExceptionTypes().length == 0 ? "" : " throws " + names(m.getExceptionTypes())) + ";");
            }
        }
        return seen;
    }

    private static String names(Class<?>[] types) {
        StringBuilder all = new StringBuilder();
        for (Class<?> type : types) {
            all.append(all.length() == 0 ? "" : ", ").append(type.getSimpleName());
        }
        return all.toString();
    }

    private static void fields() {
        for (Field f : SixteenDesk.class.getDeclaredFields()) {
            boolean face = f.getName().equals("NONE");
            C.due(f.getName() + " is private", Modifier.isPrivate(f.getModifiers()), !face);
            C.due(f.getName() + " is final", Modifier.isFinal(f.getModifiers()), true);
            if (face) {
                C.due("NONE", Modifier.toString(f.getModifiers()) + " " + f.getType(), "public static final int");
            }
        }
    }

    private static void classesInside() {
        TreeSet<String> face = new TreeSet<>();
        for (String line : FACE) {
            face.add(line.replaceAll("\\(.*", "").replaceAll(".* ", ""));
        }
        for (Class<?> inside : SixteenDesk.class.getDeclaredClasses()) {
            C.due(inside.getName() + " is static", Modifier.isStatic(inside.getModifiers()), true);
            for (Method m : inside.getDeclaredMethods()) {
                C.due(m + " bears a name of the face", face.contains(m.getName()), false);
            }
        }
    }
}
