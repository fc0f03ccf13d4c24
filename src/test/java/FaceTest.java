import java.io.IOException;
import java.lang.management.ManagementFactory;
import java.lang.reflect.Field;
import java.lang.reflect.Method;
import java.lang.reflect.Modifier;
import java.nio.file.Files;
import java.nio.file.Path;
import java.util.Set;
import java.util.TreeSet;
import java.util.regex.Pattern;

/** The public face and what LANGUAGE.md asks for, as far as a test can look at it. */
public final class FaceTest {
    private static final Set<String> FACE = Set.of(
            "int letter(int)", "int blank()", "int fault()", "int desk()", "int tariff(int,int)", "int as(int,int)",
            "long price(int,int)", "int node(int,int)", "int offer(int,int,int,int)", "int undo()",
            "int cheapest(int)", "long cost(int)", "int piece(int,int)", "int bargain(int,int)",
            "int crossing(int,int)", "int would(int,int,int,int)", "int see(int,int,int)", "int forget()",
            "int drawn(int,int,int)", "int image()", "int restore()", "int count(int)", "long digest()");
    private static final String[] RULED_OUT = {"->", "::", "\\btry\\b", "\\bcatch\\b", "\\bthrow\\b", "\\bfinally\\b",
        "\\bsynchronized\\b", "\\bassert\\b", "Exact\\b", "\\bdouble\\b", "\\bfloat\\b", "\\bSystem\\.(?!arraycopy)",
        "\\bimport (?!java\\.util\\.Arrays;)", "\\bstatic \\{", "\\bpackage\\b"};

    public static void main(String[] args) throws IOException {
        face();
        constants();
        text();
        room();
        Due.end();
    }

    private static void face() {
        Due.that("public and final", Modifier.isPublic(TariffDesk.class.getModifiers())
                && Modifier.isFinal(TariffDesk.class.getModifiers()));
        Set<String> open = new TreeSet<>();
        Set<String> names = new TreeSet<>();
        for (Method method : TariffDesk.class.getDeclaredMethods()) {
            if (!Modifier.isPrivate(method.getModifiers())) {
                StringBuilder types = new StringBuilder();
                for (Class<?> type : method.getParameterTypes()) {
                    types.append(types.length() == 0 ? "" : ",").append(type.getName());
                }
                open.add(method.getReturnType() + " " + method.getName() + "(" + types + ")");
                names.add(method.getName());
                Due.that(method.getName() + " is public", Modifier.isPublic(method.getModifiers()));
            }
        }
        Due.that("the face is " + open, open.equals(FACE));
        Due.is("constructors", TariffDesk.class.getDeclaredConstructors().length, 1);
        Due.that("public constructor", Modifier.isPublic(TariffDesk.class.getDeclaredConstructors()[0].getModifiers()));
        privateNames(TariffDesk.class, names);
        Due.that("at most some twelve classes", TariffDesk.class.getDeclaredClasses().length <= 11);
        for (Class<?> inside : TariffDesk.class.getDeclaredClasses()) {
            Due.that(inside + " is static, not public", Modifier.isStatic(inside.getModifiers())
                    && !Modifier.isPublic(inside.getModifiers()) && !Modifier.isProtected(inside.getModifiers()));
            Due.that(inside + " has few fields", inside.getDeclaredFields().length <= 20);
            privateNames(inside, names);
        }
    }

    private static void privateNames(Class<?> of, Set<String> taken) {
        for (Method method : of.getDeclaredMethods()) {
            boolean ofFace = of == TariffDesk.class && Modifier.isPublic(method.getModifiers());
            Due.that(of + "." + method.getName() + " bears no public name", ofFace || !taken.contains(method.getName()));
            Due.that(method + " takes at most seven", method.getParameterCount() <= 7);
        }
    }

    private static void constants() {
        Due.is("NONE", TariffDesk.NONE, -1);
        Due.is("UNKNOWN", TariffDesk.UNKNOWN, -101);
        Due.is("OUTSIDE", TariffDesk.OUTSIDE, -102);
        Due.is("STATE", TariffDesk.STATE, -103);
        Due.is("FULL", TariffDesk.FULL, -104);
        int open = 0;
        for (Field field : TariffDesk.class.getDeclaredFields()) {
            open += Modifier.isPrivate(field.getModifiers()) ? 0 : 1;
            Due.that(field + " is final, if static",
                    !Modifier.isStatic(field.getModifiers()) || Modifier.isFinal(field.getModifiers()));
        }
        Due.is("fields that are not private", open, 5);
    }

    private static void text() throws IOException {
        String text = Files.readString(Path.of("src/main/java/TariffDesk.java"));
        for (String word : RULED_OUT) {
            Due.that("no " + word + " in the text", !Pattern.compile(word).matcher(text).find());
        }
        Due.that("plain signs alone", text.chars().allMatch(c -> c < 127));
    }

    /** All calls of a run live in one room: after the constructor none of them makes anything. */
    private static void room() {
        com.sun.management.ThreadMXBean threads =
                (com.sun.management.ThreadMXBean) ManagementFactory.getThreadMXBean();
        long id = Thread.currentThread().getId();
        long most = 0;
        for (int round = 0; round < 3; round++) {
            long start = threads.getThreadAllocatedBytes(id);
            TariffDesk x = new TariffDesk();
            long made = threads.getThreadAllocatedBytes(id) - start;
            manyCalls(x);
            most = threads.getThreadAllocatedBytes(id) - start;
            Due.that("the constructor makes " + made + " bytes", made < 40000);
            Due.that("the calls make " + (most - made) + " bytes more", round == 0 || most - made < 1000);
        }
    }

    private static void manyCalls(TariffDesk x) {
        String text = "t+1+00@0063,f+0+20@1050,s-1+09@0462,o+3-30@3363";
        for (int i = 0; i < text.length(); i++) {
            x.letter(text.charAt(i));
        }
        x.fault();
        x.desk();
        for (int i = 0; i < 60; i++) {
            x.offer(i % 5, i % 7 - 3, 30 - i, 100 + 62 - i);
            x.would(i % 5, i % 7 - 3, 30 - i, 100 + 62 - i);
            x.see(i % 4, i, i);
            x.drawn(30, i, i % 3);
            x.image();
            x.restore();
            x.digest();
        }
    }
}
