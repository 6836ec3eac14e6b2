import java.lang.reflect.Constructor;
import java.lang.reflect.Field;
import java.lang.reflect.Method;
import java.lang.reflect.Modifier;
import java.util.Arrays;
import java.util.List;
import java.util.TreeMap;
import java.util.TreeSet;

/** The face of the class: the document's members, and no other that is not private. */
public final class FaceTest {
    private static final List<String> METHODS = List.of(
            "int miner() I",
            "int kin(int,int) XA",
            "int dock(int) A",
            "boolean check(boolean) ",
            "int hew(int,int) XAI",
            "int edition(int) A",
            "int tell(int,int) A",
            "int payday() I",
            "void house(int) XI",
            "int price(int,int,boolean) XA",
            "int raised(int,int) X",
            "int limit(int) A",
            "int whyNot(int,int,int) XA",
            "int buy(int,int,int) XAI",
            "int over(int,int,int) XAI",
            "int discount(int) A",
            "int change(int,int) XAI",
            "boolean law(int,boolean) X",
            "boolean obey(boolean) ",
            "int breaches() ",
            "int die(int) XI",
            "boolean vote(int,boolean) X",
            "boolean strike() I",
            "int give(int) A",
            "int soup() I",
            "int close(int) AI",
            "int about(int,int) XA",
            "int has(int,int) X",
            "int scrip(int,int) XA",
            "int scripAnew(int) X",
            "int baskets(int) X",
            "int books(int) X");

    private static final Due due = new Due();

    public static void main(String[] args) throws IllegalAccessException {
        due.promise(1, "the face");
        due.is("the class is public and final", ScripHollow.class.getModifiers(), Modifier.PUBLIC | Modifier.FINAL);
        methods();
        constants();
        constructors();
        classes();
        due.end();
    }

    private static void methods() {
        TreeSet<String> open = new TreeSet<>();
        TreeSet<String> names = new TreeSet<>();
        for (Method m : ScripHollow.class.getDeclaredMethods()) {
            if (!Modifier.isPrivate(m.getModifiers()) && !m.isSynthetic()) {
                open.add(told(m));
                names.add(m.getName());
                due.is(m.getName() + " is public alone", m.getModifiers(), Modifier.PUBLIC);
            }
        }
        same("the methods", open, new TreeSet<>(METHODS));
        for (Method m : ScripHollow.class.getDeclaredMethods()) {
            boolean isAlike = Modifier.isPrivate(m.getModifiers()) && names.contains(m.getName());
            due.is("the private " + m.getName() + " bears a public name", isAlike, false);
        }
    }

    private static String told(Method m) {
        StringBuilder text = new StringBuilder(m.getReturnType().getName()).append(' ').append(m.getName()).append('(');
        for (int k = 0; k < m.getParameterCount(); k++) {
            text.append(k == 0 ? "" : ",").append(m.getParameterTypes()[k].getName());
        }
        text.append(") ");
        for (Class<?> thrown : m.getExceptionTypes()) {
            text.append(thrown == Due.INDEX ? 'X' : thrown == Due.ARGUMENT ? 'A' : thrown == Due.STATE ? 'I' : '?');
        }
        return text.toString();
    }

    private static void constants() throws IllegalAccessException {
        TreeMap<String, Integer> open = new TreeMap<>();
        for (Field f : ScripHollow.class.getDeclaredFields()) {
            if (!Modifier.isPrivate(f.getModifiers()) && !f.isSynthetic()) {
                int constant = Modifier.PUBLIC | Modifier.STATIC | Modifier.FINAL;
                due.is(f.getName() + " is a constant", f.getModifiers(), constant);
                due.is(f.getName() + " is an int", f.getType() == int.class, true);
                open.put(f.getName(), f.getInt(null));
            }
        }
        TreeMap<String, Integer> want = new TreeMap<>();
        want.put("NONE", -1);
        List<String> kinds = Arrays.asList("RENT", "DOCTOR", "TOOLS", "SCHOOL", "STORE");
        for (int k = 0; k < kinds.size(); k++) {
            want.put(kinds.get(k), k + 1);
        }
        want.put("TRUCK", 0);
        want.put("DEDUCTION", 1);
        want.put("DEATH", 2);
        same("the constants", open, want);
    }

    private static void constructors() {
        Constructor<?>[] all = ScripHollow.class.getDeclaredConstructors();
        due.is("one constructor", all.length, 1);
        due.is("it is public", all[0].getModifiers(), Modifier.PUBLIC);
        due.is("without arguments", all[0].getParameterCount(), 0);
    }

    private static void classes() {
        for (Class<?> inside : ScripHollow.class.getDeclaredClasses()) {
            boolean isOpen = (inside.getModifiers() & (Modifier.PUBLIC | Modifier.PROTECTED)) != 0;
            due.is(inside.getName() + " is open", isOpen, false);
        }
    }

    private static void same(String what, Object got, Object want) {
        due.is(what + ", " + got + ", due are " + want, got.equals(want), true);
    }
}
