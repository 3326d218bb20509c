import java.lang.reflect.Constructor;
import java.lang.reflect.Field;
import java.lang.reflect.Method;
import java.lang.reflect.Modifier;
import java.util.Arrays;
import java.util.Set;
import java.util.TreeSet;

/** The face of the class, its constants, and that no other member bears a name of the face. */
public final class FaceTest {
    private static final String FACE = "int asks(int,int) int back() int cell(int,int,int) int comes(int,int) "
        + "int copy(int,int,int,int,int) int count(int) int drawn(int,int) int dune(int,int) "
        + "int dunesBy(int,int,int,int) int ends(int) int feed(int,int,int,int,int,int) int film(int,int,int) "
        + "int first(int) int force(int) int grows(int) int hold(int,int) int image() int judge(int,int) "
        + "int kinds(int,int,int) int laws(int,int) int move(int,int) long odds(int,int,int,int) long parish(int) "
        + "int put(int,int,int) int run(int,int) long share(int,int) int sheet(int,int,int) int sow(int,int) "
        + "int states(int,int,int,int) int taken(int,int) int text() int told(int,int) int whose(int) "
        + "int yard(int,int,int) int year()";
    private static final String[] CONSTANTS = {"int NONE", "int BAD", "int STATE", "int FULL", "long NO"};

    public static void main(String[] args) {
        Due.is("NONE", DunesWalked.NONE, -1);
        Due.is("BAD", DunesWalked.BAD, -2);
        Due.is("STATE", DunesWalked.STATE, -3);
        Due.is("FULL", DunesWalked.FULL, -4);
        Due.is("NO", DunesWalked.NO, -4611686018427387904L);
        face();
        names();
        Due.end();
    }

    private static void face() {
        Set<String> got = new TreeSet<>();
        Class<?> c = DunesWalked.class;
        Due.is("the class is public and final", c.getModifiers(), Modifier.PUBLIC | Modifier.FINAL);
        for (Method m : c.getDeclaredMethods()) {
            if (!Modifier.isPrivate(m.getModifiers())) {
                String types = Arrays.toString(m.getParameterTypes()).replaceAll("[\\[\\] ]", "");
                got.add(m.getReturnType() + " " + m.getName() + "(" + types + ")");
                Due.is(m + " is public alone", m.getModifiers(), Modifier.PUBLIC);
            }
        }
        Set<String> want = new TreeSet<>(Arrays.asList(FACE.split(" (?=int |long )")));
        Due.is("the face " + want + " is " + got, got.equals(want) ? 1 : 0, 1);
        Set<String> constants = new TreeSet<>();
        for (Field f : c.getDeclaredFields()) {
            if (!Modifier.isPrivate(f.getModifiers())) {
                constants.add(f.toString());
            }
            Due.is(f + " is final if it is static", f.getModifiers() & (Modifier.STATIC | Modifier.FINAL),
                Modifier.isStatic(f.getModifiers()) ? Modifier.STATIC | Modifier.FINAL
                    : f.getModifiers() & Modifier.FINAL);
        }
        Set<String> due = new TreeSet<>();
        for (String constant : CONSTANTS) {
            due.add("public static final " + constant.replace(" ", " DunesWalked."));
        }
        Due.is("the constants", constants.toString(), due.toString());
        for (Constructor<?> k : c.getDeclaredConstructors()) {
            Due.is(k + " is public", k.getModifiers(), Modifier.PUBLIC);
            Due.is(k + " takes nothing", k.getParameterCount(), 0);
        }
    }

    /** No method of the class or of the classes inside it that isn't public bears the name of a public one. */
    private static void names() {
        Set<String> ofPublic = new TreeSet<>();
        for (Method m : DunesWalked.class.getDeclaredMethods()) {
            if (Modifier.isPublic(m.getModifiers())) {
                ofPublic.add(m.getName());
            }
        }
        for (Class<?> c : DunesWalked.class.getDeclaredClasses()) {
            Due.is(c + " is static", Modifier.isStatic(c.getModifiers()) ? 1 : 0, 1);
            for (Method m : c.getDeclaredMethods()) {
                Due.is(m + " bears a public name", ofPublic.contains(m.getName()) ? 1 : 0, 0);
            }
        }
        for (Method m : DunesWalked.class.getDeclaredMethods()) {
            if (Modifier.isPrivate(m.getModifiers())) {
                Due.is(m + " bears a public name", ofPublic.contains(m.getName()) ? 1 : 0, 0);
            }
        }
    }
}
