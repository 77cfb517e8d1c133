import java.lang.reflect.Constructor;
import java.lang.reflect.Field;
import java.lang.reflect.Method;
import java.lang.reflect.Modifier;
import java.util.TreeSet;

/** The public face: its constants, constructor and methods as the document has them, and no other. */
public final class FaceTest {
    public static void main(String[] args) throws Exception {
        Check check = new Check("FaceTest");
        Class<?> face = NaturalMachine.class;
        check.due("modifiers", Modifier.toString(face.getModifiers()), "public final");
        check.due("fields", fields(face), "ADDRESS=2 BREAK=5 DIVIDE=3 DONE=2 FAULTED=3 INDEX=4 NO_FAULT=0 "
                + "OPCODE=1 RUNNING=1 STOPPED=0 ");
        check.due("constructors", constructors(face), "public NaturalMachine(int) ");
        check.due("methods", methods(face), "public boolean NaturalMachine.condition() "
                + "public boolean NaturalMachine.setRegister(int,long) "
                + "public boolean NaturalMachine.start(int) "
                + "public boolean NaturalMachine.store(int,long,int) "
                + "public int NaturalMachine.fault() "
                + "public int NaturalMachine.peek(int) "
                + "public int NaturalMachine.run(int) throws java.lang.IllegalArgumentException "
                + "public int NaturalMachine.state() "
                + "public int NaturalMachine.step() throws java.lang.IllegalStateException,"
                + "java.lang.UnsupportedOperationException "
                + "public long NaturalMachine.index(long,int,int) throws java.lang.IllegalArgumentException "
                + "public long NaturalMachine.ip() "
                + "public long NaturalMachine.register(int) ");
        check.due("private methods with a public one's name", privateNamesakes(face), "");
        check.end();
    }

    private static String fields(Class<?> face) throws Exception {
        TreeSet<String> all = new TreeSet<>();
        for (Field f : face.getDeclaredFields()) {
            if (!Modifier.isPrivate(f.getModifiers())) {
                all.add(f.getName() + "=" + f.getInt(null));
            }
        }
        return joined(all);
    }

    private static String constructors(Class<?> face) {
        TreeSet<String> all = new TreeSet<>();
        for (Constructor<?> c : face.getDeclaredConstructors()) {
            all.add(c.toString());
        }
        return joined(all);
    }

    private static String methods(Class<?> face) {
        TreeSet<String> all = new TreeSet<>();
        for (Method m : face.getDeclaredMethods()) {
            if (!Modifier.isPrivate(m.getModifiers())) {
                all.add(m.toString());
            }
        }
        return joined(all);
    }

    private static String privateNamesakes(Class<?> face) {
        TreeSet<String> open = new TreeSet<>();
        for (Method m : face.getMethods()) {
            open.add(m.getName());
        }
        TreeSet<String> both = new TreeSet<>();
        for (Method m : face.getDeclaredMethods()) {
            if (Modifier.isPrivate(m.getModifiers()) && open.contains(m.getName())) {
                both.add(m.getName());
            }
        }
        return joined(both);
    }

    private static String joined(TreeSet<String> all) {
        StringBuilder s = new StringBuilder();
        for (String one : all) {
            s.append(one).append(' ');
        }
        return s.toString();
    }
}
