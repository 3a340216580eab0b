import java.io.IOException;
import java.lang.reflect.Constructor;
import java.lang.reflect.Field;
import java.lang.reflect.Method;
import java.lang.reflect.Modifier;
import java.nio.file.Files;
import java.nio.file.Path;
import java.util.Arrays;
import java.util.Set;
import java.util.TreeSet;

/** The public face is the document's, and the source keeps to what LANGUAGE.md leaves. */
public final class FaceTest {
    private static final String FACE = "feed/5 text/1 tell/1 fault/1 hours/2 message/2 thing/3 inside/3 there/3 many/2 trail/3 "
        + "known/2 changed/1 without/2 refused/1 blamed/1 twoBlamed/1 met/3 wereIn/4 most/1 still/2 components/2 dwelt/2 flow/2 "
        + "cause/1 needs/2 ifAt/3 window/2 lost/3 ifSwapped/3 busy/2 travelled/1 clash/3 soonest/3 count/1";
    private static final String[] RULED_OUT = {"->", "::", "finally", "synchronized", "assert ", "getMessage", "hashCode",
        "toString", "System.out", "Exact(", "catch", "throw new Error", "Object ", "protected"};

    public static void main(String[] args) throws IOException {
        members();
        nested();
        source();
        Due.is("NONE", PackTracer.NONE, -1);
        Due.end();
    }

    private static void check(String what, boolean holds) {
        Due.is(what, holds ? 1 : 0, 1);
    }

    private static void members() {
        Class<?> c = PackTracer.class;
        check("public and final", Modifier.isPublic(c.getModifiers()) && Modifier.isFinal(c.getModifiers()));
        Set<String> found = new TreeSet<>();
        for (Method m : c.getDeclaredMethods()) {
            if (Modifier.isPublic(m.getModifiers())) {
                found.add(m.getName() + "/" + m.getParameterCount());
                check(m + " takes ints, answers an int", m.getReturnType() == int.class
                    && Arrays.stream(m.getParameterTypes()).allMatch(t -> t == int.class));
            } else {
                check(m + " is private", Modifier.isPrivate(m.getModifiers()));
            }
        }
        check("the face: " + found, found.equals(new TreeSet<>(Arrays.asList(FACE.split(" ")))));
        for (Field f : c.getDeclaredFields()) {
            check(f + " is private, or NONE", f.getName().equals("NONE") || Modifier.isPrivate(f.getModifiers()));
            check(f + " is final", Modifier.isFinal(f.getModifiers()));
        }
        for (Constructor<?> k : c.getDeclaredConstructors()) {
            check(k + " takes nothing", k.getParameterCount() == 0 && Modifier.isPublic(k.getModifiers()));
        }
    }

    private static void nested() {
        Set<String> names = new TreeSet<>();
        for (String f : FACE.split(" ")) {
            names.add(f.substring(0, f.indexOf('/')));
        }
        Class<?>[] inner = PackTracer.class.getDeclaredClasses();
        check("at most twelve classes", inner.length < 12);
        for (Class<?> c : inner) {
            check(c + " is static", Modifier.isStatic(c.getModifiers()) && Modifier.isPrivate(c.getModifiers()));
            long fields = Arrays.stream(c.getDeclaredFields()).filter(f -> !Modifier.isStatic(f.getModifiers())).count();
            check(c + " has at most twenty fields", fields <= 20);
            for (Method m : c.getDeclaredMethods()) {
                check(m + " bears no name of the face", !names.contains(m.getName()));
                check(m + " takes at most seven", m.getParameterCount() <= 7);
            }
        }
    }

    private static void source() throws IOException {
        String all = Files.readString(Path.of("src/main/java/PackTracer.java"));
        for (String word : RULED_OUT) {
            check("no " + word, !all.contains(word));
        }
        for (String line : all.split("\n")) {
            check(line, !line.startsWith("import ") || line.equals("import java.util.Arrays;")
                || line.equals("import java.util.NoSuchElementException;"));
        }
        check("plain signs alone", all.chars().allMatch(ch -> ch == '\n' || ch >= 32 && ch < 127));
    }
}
