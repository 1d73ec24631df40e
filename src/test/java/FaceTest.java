import java.io.IOException;
import java.lang.reflect.Constructor;
import java.lang.reflect.Field;
import java.lang.reflect.Method;
import java.lang.reflect.Modifier;
import java.nio.file.Files;
import java.nio.file.Path;
import java.util.Arrays;
import java.util.HashSet;
import java.util.Set;
import java.util.TreeSet;

/** The public face is the one of the document, with its exceptions in their order, and nothing else shows. */
public final class FaceTest {
    private static final String I = "IndexOutOfBounds";
    private static final String A = "IllegalArgument";
    private static final String S = "IllegalState";
    private static final String N = "java.util.NoSuchElement";
    private static final String U = "UnsupportedOperation";
    private static final String M = "Arithmetic";

    private FaceTest() {
    }

    public static void main(String[] args) throws IOException {
        asTheDocumentTells();
        Set<String> want = new TreeSet<>();
        add(want, "int station()", S);
        add(want, "int shot(int,int,int,int,int,int,int,int)", I, A, S);
        add(want, "boolean setAside(int,int)", I, A);
        add(want, "boolean join(int,int,int)", I, A, S);
        add(want, "int oneWith(int,int)", I, A);
        add(want, "boolean isHung(int,int)", I, A);
        add(want, "long top(int,int,int)", I, A, N);
        add(want, "long bottom(int,int,int)", I, A, N);
        add(want, "int loops(int)", A);
        add(want, "long fault(int,int)", I, A, N);
        add(want, "long allFaults(int)", A);
        add(want, "int blunder(int)", A, N);
        add(want, "int length(int)", A);
        add(want, "long depth(int)", A);
        add(want, "int setHeight(int,int)", I, A, U);
        add(want, "int conduit(int,int,int,int)", I, A, U, S);
        add(want, "int trace(int,int)", I, A);
        add(want, "int traced(int,int)", I, A);
        add(want, "int peak(int)", I, N);
        add(want, "int rain(int,int)", A);
        add(want, "int water(int)", A);
        add(want, "int sump(int,int)", I, A);
        add(want, "boolean isClosed(int,int)", I, A);
        add(want, "int party(int)", I, S);
        add(want, "int tell(int,int)", I);
        add(want, "boolean knows(int,int)", I);
        add(want, "int go(int,int)", I, U, S);
        add(want, "int pause(int,int)", I, A);
        add(want, "int placeOf(int)", I);
        add(want, "int hourOf(int)", I);
        add(want, "int plan(int)", I, N);
        add(want, "int planAt(int,int)", I, N, A);
        add(want, "int lastChance(int)", I, N);
        add(want, "int stations()");
        add(want, "int shots()");
        add(want, "long allSteps()");
        add(want, "float hungShare(int)", A, M);
        add(want, "double meanRain()", M);
        add(want, "boolean isSound(int)", A);
        Checks.due("the methods", want.toString(), () -> shown().toString());
        Checks.due("public and final", Modifier.PUBLIC | Modifier.FINAL, () -> Cavernbook.class.getModifiers());
        Checks.due("constructors", "[public Cavernbook()]",
            () -> Arrays.toString(Cavernbook.class.getDeclaredConstructors()));
        Checks.due("throws of the constructor", 0, () -> thrownByConstructor());
        Checks.due("fields that show", 0, () -> fieldsThatShow());
        Checks.due("private methods with a public name", "[]", () -> sharedNames().toString());
        Checks.due("classes inside that are public or not static", 0, () -> classesThatShow());
        Checks.finish();
    }

    /** Each line of the document's face is a head in the source, with its names and its throws as they stand there. */
    private static void asTheDocumentTells() throws IOException {
        String document = Files.readString(Path.of("..", "shared", "DOC.md"));
        String face = document.substring(document.indexOf("public final class Cavernbook {"));
        String source = Files.readString(Path.of("src", "main", "java", "Cavernbook.java")).replaceAll("\\s+", " ");
        int heads = 0;
        for (String line : face.substring(0, face.indexOf("\n}")).split("\n")) {
            String head = line.strip().replaceAll(";$", " {");
            Checks.due("in the source: " + head, true, () -> source.contains(head));
            heads++;
        }
        int found = heads;
        Checks.due("the class, its constructor and 39 methods", 41, () -> found);
    }

    private static void add(Set<String> want, String head, String... thrown) {
        StringBuilder text = new StringBuilder(head);
        for (String name : thrown) {
            text.append(' ').append(name.indexOf('.') < 0 ? "java.lang." + name : name).append("Exception");
        }
        want.add(text.toString());
    }

    private static Set<String> shown() {
        Set<String> shown = new TreeSet<>();
        for (Method m : Cavernbook.class.getDeclaredMethods()) {
            if (Modifier.isPrivate(m.getModifiers())) {
                continue;
            }
            StringBuilder text = new StringBuilder();
            text.append(m.getModifiers() == Modifier.PUBLIC ? "" : Modifier.toString(m.getModifiers()) + " ");
            text.append(m.getReturnType().getName()).append(' ').append(m.getName()).append('(');
            for (int i = 0; i < m.getParameterCount(); i++) {
                text.append(i > 0 ? "," : "").append(m.getParameterTypes()[i].getName());
            }
            text.append(')');
            for (Class<?> c : m.getExceptionTypes()) {
                text.append(' ').append(c.getName());
            }
            shown.add(text.toString());
        }
        return shown;
    }

    private static int thrownByConstructor() {
        int count = 0;
        for (Constructor<?> c : Cavernbook.class.getDeclaredConstructors()) {
            count += c.getExceptionTypes().length;
        }
        return count;
    }

    private static int fieldsThatShow() {
        int count = 0;
        for (Field f : Cavernbook.class.getDeclaredFields()) {
            boolean loose = Modifier.isStatic(f.getModifiers()) && !Modifier.isFinal(f.getModifiers());
            count += !Modifier.isPrivate(f.getModifiers()) || loose ? 1 : 0;
        }
        return count;
    }

    private static Set<String> sharedNames() {
        Set<String> open = new HashSet<>();
        for (Method m : Cavernbook.class.getDeclaredMethods()) {
            if (Modifier.isPublic(m.getModifiers())) {
                open.add(m.getName());
            }
        }
        Set<String> shared = new TreeSet<>();
        shared.addAll(namesOf(Cavernbook.class, open));
        for (Class<?> c : Cavernbook.class.getDeclaredClasses()) {
            shared.addAll(namesOf(c, open));
        }
        return shared;
    }

    private static Set<String> namesOf(Class<?> where, Set<String> open) {
        Set<String> names = new TreeSet<>();
        for (Method m : where.getDeclaredMethods()) {
            if (open.contains(m.getName()) && (where != Cavernbook.class || !Modifier.isPublic(m.getModifiers()))) {
                names.add(where.getSimpleName() + "." + m.getName());
            }
        }
        return names;
    }

    private static int classesThatShow() {
        int count = 0;
        for (Class<?> c : Cavernbook.class.getDeclaredClasses()) {
            count += Modifier.isPublic(c.getModifiers()) || !Modifier.isStatic(c.getModifiers()) ? 1 : 0;
        }
        return count;
    }
}
