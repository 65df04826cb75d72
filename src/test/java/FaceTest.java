import java.io.IOException;
import java.lang.reflect.Constructor;
import java.lang.reflect.Field;
import java.lang.reflect.Method;
import java.lang.reflect.Modifier;
import java.nio.file.Files;
import java.nio.file.Path;
import java.util.Arrays;
import java.util.Set;
import java.util.TreeSet;
import java.util.stream.Collectors;

/** The class has the members that stand under "The public face" in ../shared/DOC.md, and shows no other. */
public final class FaceTest {
    private static final String FACE = """
            public static final int NONE = -1;
            public LiveryYard();
            public int horse(int kind, int age);
            public boolean lame(int horse, boolean is);
            public boolean field(int field, int room, int wet);
            public boolean shut(int field, int day);
            public boolean gate(int a, int b, boolean is);
            public int feed(int a, int b, int c, int d, int e);
            public int end(int n);
            public int rules();
            public int fault(int what);
            public boolean may(int horse, int field, int hour);
            public boolean meet(int one, int field, int other, int otherField, int hour);
            public int plan();
            public int tries();
            public int out(int horse);
            public int stuck();
            public int lot(int bin, int amount, int last);
            public boolean takes(int horse, int bin, int amount);
            public boolean price(int what, int price);
            public boolean falls(int sort, int days);
            public int night();
            public int bin(int bin, int what);
            public int foretold(int bin);
            public int work(int horse, int sort, int day);
            public int due(int horse, int sort);
            public int bill(int horse, int a, int b, int c);
            public int lacked(int horse);
            public int about(int what);
            """;

    public static void main(String[] args) throws IOException, IllegalAccessException {
        document();
        Set<String> due = face();
        Set<String> got = members();
        for (String member : due) {
            Check.same("has " + member, got.contains(member), true);
        }
        for (String member : got) {
            Check.same("is in the document: " + member, due.contains(member), true);
        }
        classes();
        Check.end();
    }

    /** The lines of the face, with types alone where the document names parameters. */
    private static Set<String> face() {
        return FACE.lines().map(line -> line.replaceAll("(\\w+) \\w+(?=[,)])", "$1"))
                .collect(Collectors.toCollection(TreeSet::new));
    }

    /** The lines above are the document's, where it can be read. */
    private static void document() throws IOException {
        Path document = Path.of("../shared/DOC.md");
        if (Files.exists(document)) {
            String found = Files.readAllLines(document).stream().filter(line -> line.startsWith("    public "))
                    .map(line -> line.strip() + "\n").collect(Collectors.joining());
            Check.same("the document's face is the one here", found.equals(FACE), true);
        }
    }

    /** What is not private, in the document's words. */
    private static Set<String> members() throws IllegalAccessException {
        Set<String> all = new TreeSet<>();
        for (Field field : LiveryYard.class.getDeclaredFields()) {
            if (!Modifier.isPrivate(field.getModifiers())) {
                all.add(Modifier.toString(field.getModifiers()) + " " + field.getType().getSimpleName() + " "
                        + field.getName() + " = " + field.get(null) + ";");
            }
        }
        for (Constructor<?> made : LiveryYard.class.getDeclaredConstructors()) {
            all.add(Modifier.toString(made.getModifiers()) + " LiveryYard(" + types(made.getParameterTypes()) + ");");
        }
        for (Method method : LiveryYard.class.getDeclaredMethods()) {
            if (!Modifier.isPrivate(method.getModifiers())) {
                all.add(Modifier.toString(method.getModifiers()) + " " + method.getReturnType().getSimpleName() + " "
                        + method.getName() + "(" + types(method.getParameterTypes()) + ");");
            }
        }
        return all;
    }

    private static String types(Class<?>[] types) {
        return Arrays.stream(types).map(Class::getSimpleName).collect(Collectors.joining(", "));
    }

    private static void classes() {
        int face = LiveryYard.class.getModifiers();
        Check.same("public and final", Modifier.isPublic(face) && Modifier.isFinal(face), true);
        Check.same("extends nothing", LiveryYard.class.getSuperclass() == Object.class, true);
        Check.same("implements nothing", LiveryYard.class.getInterfaces().length, 0);
        for (Class<?> inside : LiveryYard.class.getDeclaredClasses()) {
            int of = inside.getModifiers();
            Check.same(inside + " is static", Modifier.isStatic(of), true);
            Check.same(inside + " is hidden", Modifier.isPublic(of) || Modifier.isProtected(of), false);
        }
    }
}
