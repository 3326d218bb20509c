import java.io.IOException;
import java.lang.reflect.Constructor;
import java.lang.reflect.Field;
import java.lang.reflect.Member;
import java.lang.reflect.Method;
import java.lang.reflect.Modifier;
import java.nio.charset.StandardCharsets;
import java.nio.file.Files;
import java.nio.file.Path;
import java.util.Arrays;
import java.util.Set;
import java.util.TreeSet;
import java.util.regex.Matcher;
import java.util.regex.Pattern;

/** The face of the class, its constants, and those rules of the language that can be seen from outside. */
public final class FaceTest {
    private static final String FACE = "int asks(int,int) int back() int cell(int,int,int) int comes(int,int) "
        + "int copy(int,int,int,int,int) int count(int) int drawn(int,int) int dune(int,int) "
        + "int dunesBy(int,int,int,int) int ends(int) int feed(int,int,int,int,int,int) int film(int,int,int) "
        + "int first(int) int force(int) int grows(int) int hold(int,int) int image() int judge(int,int) "
        + "int kinds(int,int,int) int laws(int,int) int move(int,int) long odds(int,int,int,int) long parish(int) "
        + "int put(int,int,int) int run(int,int) long share(int,int) int sheet(int,int,int) int sow(int,int) "
        + "int states(int,int,int,int) int taken(int,int) int text() int told(int,int) int whose(int) "
        + "int yard(int,int,int) int year()";
    private static final Path SOURCE = Path.of("src/main/java/DunesWalked.java");

    public static void main(String[] args) throws IOException {
        Due.is("NONE", DunesWalked.NONE, -1);
        Due.is("BAD", DunesWalked.BAD, -2);
        Due.is("STATE", DunesWalked.STATE, -3);
        Due.is("FULL", DunesWalked.FULL, -4);
        Due.is("NO", DunesWalked.NO, -4611686018427387904L);
        face();
        names();
        source();
        Due.end();
    }

    private static void face() {
        Set<String> got = new TreeSet<>();
        Class<?> c = DunesWalked.class;
        Due.is("the class is public and final", c.getModifiers(), Modifier.PUBLIC | Modifier.FINAL);
        for (Method m : c.getDeclaredMethods()) {
            if (!Modifier.isPrivate(m.getModifiers())) {
                String types = Arrays.toString(m.getParameterTypes()).replaceAll("[\\[\\] ]", "");
                got.add(m.getReturnType() + " " + m.getName() + "(" + types + ")");
                Due.is(m + " is public alone", m.getModifiers(), Modifier.PUBLIC);
            }
        }
        Set<String> want = new TreeSet<>(Arrays.asList(FACE.split(" (?=int |long )")));
        Due.is("the face " + want + " is " + got, got.equals(want) ? 1 : 0, 1);
        int constants = 0;
        for (Field f : c.getDeclaredFields()) {
            constants += Modifier.isPrivate(f.getModifiers()) ? 0 : 1;
            Due.is(f + " is final if it is static", f.getModifiers() & (Modifier.STATIC | Modifier.FINAL),
                Modifier.isStatic(f.getModifiers()) ? Modifier.STATIC | Modifier.FINAL
                    : f.getModifiers() & Modifier.FINAL);
        }
        Due.is("public constants", constants, 5);
        for (Constructor<?> k : c.getDeclaredConstructors()) {
            Due.is(k + " is public", k.getModifiers(), Modifier.PUBLIC);
            Due.is(k + " takes nothing", k.getParameterCount(), 0);
        }
    }

    /** No method of the class or of the classes inside it that isn't public bears the name of a public one. */
    private static void names() {
        Set<String> ofPublic = new TreeSet<>();
        for (Method m : DunesWalked.class.getDeclaredMethods()) {
            if (Modifier.isPublic(m.getModifiers())) {
                ofPublic.add(m.getName());
            }
        }
        int inside = 0;
        for (Class<?> c : DunesWalked.class.getDeclaredClasses()) {
            inside++;
            Due.is(c + " is static", Modifier.isStatic(c.getModifiers()) ? 1 : 0, 1);
            Due.is(c + " has few fields", own(c.getDeclaredFields()) <= 20 ? 1 : 0, 1);
            for (Method m : c.getDeclaredMethods()) {
                Due.is(m + " bears a public name", ofPublic.contains(m.getName()) ? 1 : 0, 0);
                Due.is(m + " has few parameters", m.getParameterCount() <= 7 ? 1 : 0, 1);
            }
        }
        for (Method m : DunesWalked.class.getDeclaredMethods()) {
            if (Modifier.isPrivate(m.getModifiers())) {
                Due.is(m + " bears a public name", ofPublic.contains(m.getName()) ? 1 : 0, 0);
            }
        }
        Due.is("the class has few fields", own(DunesWalked.class.getDeclaredFields()) <= 20 ? 1 : 0, 1);
        Due.is("few classes", inside <= 12 ? 1 : 0, 1);
    }

    private static int own(Field[] fields) {
        int n = 0;
        for (Member f : fields) {
            n += Modifier.isStatic(f.getModifiers()) ? 0 : 1;
        }
        return n;
    }

    private static void source() throws IOException {
        String text = Files.readString(SOURCE, StandardCharsets.UTF_8);
        String code = text.replaceAll("(?s)/\\*.*?\\*/|//[^\n]*", " ");
        String bare = code.replaceAll("\"[^\"\n]*\"", "\"\"");
        Matcher word = Pattern.compile("\\b(throw|throws|try|catch|synchronized|assert|instanceof|Exact|package|Object"
            + "|System\\.(?!arraycopy)\\w+|Math\\.\\w+Exact|Integer\\.valueOf|->|::)").matcher(bare);
        while (word.find()) {
            Due.is("the source has " + word.group(), 1, 0);
        }
        Due.is("texts joined by +", Pattern.compile("\"\\s*\\+|\\+\\s*\"").matcher(bare).find() ? 1 : 0, 0);
        Matcher imports = Pattern.compile("import ([^;]+);").matcher(bare);
        while (imports.find()) {
            Due.is("import " + imports.group(1), imports.group(1).equals("java.util.Arrays") ? 1 : 0, 1);
        }
        for (char c : text.toCharArray()) {
            if (c > 126) {
                Due.is("a sign of the source", c, ' ');
            }
        }
    }
}
