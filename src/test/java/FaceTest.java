import java.lang.reflect.Constructor;
import java.lang.reflect.Field;
import java.lang.reflect.Method;
import java.lang.reflect.Modifier;
import java.util.Arrays;
import java.util.TreeSet;

/** The public face as the document has it, and no other member that can be seen (LANGUAGE.md, rule 1). */
public final class FaceTest {
    private static final String[] FACE = {
        "int feed(int,int,int,int,int)", "boolean end(int)", "int assemble()", "int told(int)", "int word(int)",
        "int label(int)", "boolean load()", "boolean key(int)", "int run(int)", "int state()", "int register(int)",
        "boolean set(int,int)", "int peek(int)", "void poke(int,int)", "int write(int)", "int written(int)",
        "int again()", "int printed()", "int print(int)", "int count(int)",
    };

    public static void main(String[] args) {
        Check c = new Check("FaceTest");
        Class<?> desk = SixteenDesk.class;
        c.due("modifiers", desk.getModifiers(), Modifier.PUBLIC | Modifier.FINAL);
        TreeSet<String> seen = new TreeSet<>();
        TreeSet<String> faceNames = new TreeSet<>();
        for (Method m : desk.getDeclaredMethods()) {
            if (!Modifier.isPrivate(m.getModifiers()) && !m.isSynthetic()) {
                StringBuilder takes = new StringBuilder();
                for (Class<?> p : m.getParameterTypes()) {
                    takes.append(takes.length() == 0 ? "" : ",").append(p.getName());
                }
                seen.add(m.getReturnType().getName() + " " + m.getName() + "(" + takes + ")");
                faceNames.add(m.getName());
                c.due(m.getName() + " is public", m.getModifiers(), Modifier.PUBLIC);
            }
        }
        c.due("the methods", seen.toString(), new TreeSet<>(Arrays.asList(FACE)).toString());
        for (Constructor<?> k : desk.getDeclaredConstructors()) {
            c.due("the constructor is public", k.getModifiers(), Modifier.PUBLIC);
            c.due("the constructor's parameters", k.getParameterCount(), 0);
        }
        for (Field f : desk.getDeclaredFields()) {
            boolean face = f.getName().equals("NONE");
            c.due(f.getName() + " is private", Modifier.isPrivate(f.getModifiers()), !face);
            c.due(f.getName() + " is final", Modifier.isFinal(f.getModifiers()), true);
        }
        for (Class<?> inside : desk.getDeclaredClasses()) {
            c.due(inside.getName() + " is static", Modifier.isStatic(inside.getModifiers()), true);
            for (Method m : inside.getDeclaredMethods()) {
                c.due(m + " bears a name of the face", faceNames.contains(m.getName()), false);
            }
        }
        c.due("NONE", SixteenDesk.NONE, -1);
        c.finish();
    }
}
