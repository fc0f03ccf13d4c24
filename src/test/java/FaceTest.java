import java.io.IOException;
import java.lang.management.ManagementFactory;
import java.lang.reflect.Field;
import java.lang.reflect.Method;
import java.lang.reflect.Modifier;
import java.nio.file.Files;
import java.nio.file.Path;
import java.util.List;
import java.util.Set;
import java.util.TreeSet;
import java.util.regex.Pattern;

/** The public face and what LANGUAGE.md asks for, as far as a test can look at it. */
public final class FaceTest {
    private static final String[] RULED_OUT = {"->", "::", "\\btry\\b", "\\bcatch\\b", "\\bthrow\\b", "\\bfinally\\b",
        "\\bsynchronized\\b", "\\bassert\\b", "Exact\\b", "\\bdouble\\b", "\\bfloat\\b", "\\bSystem\\.(?!arraycopy)",
        "\\bimport (?!java\\.util\\.Arrays;)", "\\bstatic \\{", "\\bpackage\\b"};
    /** What is used of the library, all of it named in rule 4; each other name with a dot is of a class inside. */
    private static final Set<String> LIBRARY = Set.of("Arrays.fill", "Math.max", "Math.min", "Math.floorDiv");

    public static void main(String[] args) throws IOException {
        face();
        constants();
        text();
        room();
        Due.end();
    }

    private static void face() throws IOException {
        Due.that("public and final", Modifier.isPublic(TariffDesk.class.getModifiers())
                && Modifier.isFinal(TariffDesk.class.getModifiers()));
        Set<String> names = new TreeSet<>();
        Due.that("the face is as the document's", openMethods(names).equals(methodsDue()));
        Due.is("constructors", TariffDesk.class.getDeclaredConstructors().length, 1);
        Due.that("public constructor", Modifier.isPublic(TariffDesk.class.getDeclaredConstructors()[0].getModifiers()));
        privateNames(TariffDesk.class, names);
        Due.that("at most some twelve classes", TariffDesk.class.getDeclaredClasses().length <= 11);
        for (Class<?> inside : TariffDesk.class.getDeclaredClasses()) {
            Due.that(inside + " is static, not public", Modifier.isStatic(inside.getModifiers())
                    && !Modifier.isPublic(inside.getModifiers()) && !Modifier.isProtected(inside.getModifiers()));
            Due.that(inside + " has few fields", inside.getDeclaredFields().length <= 20);
            privateNames(inside, names);
        }
    }

    /** All methods that are not private, as in "long price(int,int)"; and their names. */
    private static Set<String> openMethods(Set<String> names) {
        Set<String> open = new TreeSet<>();
        for (Method method : TariffDesk.class.getDeclaredMethods()) {
            if (!Modifier.isPrivate(method.getModifiers())) {
                StringBuilder types = new StringBuilder();
                for (Class<?> type : method.getParameterTypes()) {
                    types.append(types.length() == 0 ? "" : ",").append(type.getName());
                }
                open.add(method.getReturnType() + " " + method.getName() + "(" + types + ")");
                names.add(method.getName());
                Due.that(method.getName() + " is public", Modifier.isPublic(method.getModifiers()));
            }
        }
        return open;
    }

    private static Set<String> methodsDue() throws IOException {
        Set<String> due = new TreeSet<>();
        for (String method : Readme.face()) {
            due.add(method.replaceAll("(int|long) \\w+(?=[,)])", "$1").replace(", ", ","));
        }
        Due.is("methods of the document's face", due.size(), 23);
        return due;
    }

    private static void privateNames(Class<?> of, Set<String> taken) {
        for (Method method : of.getDeclaredMethods()) {
            boolean ofFace = of == TariffDesk.class && Modifier.isPublic(method.getModifiers());
            Due.that(of + "." + method.getName() + " bears no public name", ofFace || !taken.contains(method.getName()));
            Due.that(method + " takes at most seven", method.getParameterCount() <= 7);
        }
    }

    private static void constants() {
        Due.is("NONE", TariffDesk.NONE, -1);
        Due.is("UNKNOWN", TariffDesk.UNKNOWN, -101);
        Due.is("OUTSIDE", TariffDesk.OUTSIDE, -102);
        Due.is("STATE", TariffDesk.STATE, -103);
        Due.is("FULL", TariffDesk.FULL, -104);
        int open = 0;
        for (Field field : TariffDesk.class.getDeclaredFields()) {
            open += Modifier.isPrivate(field.getModifiers()) ? 0 : 1;
            Due.that(field + " is final, if static",
                    !Modifier.isStatic(field.getModifiers()) || Modifier.isFinal(field.getModifiers()));
        }
        Due.is("fields that are not private", open, 5);
    }

    private static void text() throws IOException {
        String text = Files.readString(Path.of("src/main/java/TariffDesk.java"));
        faceAsWritten(text);
        library(text);
        for (String word : RULED_OUT) {
            Due.that("no " + word + " in the text", !Pattern.compile(word).matcher(text).find());
        }
        Due.that("plain signs alone", text.chars().allMatch(c -> c < 127));
    }

    /** The names of parameters, too, the constants' values, and the headings ahead of the calls. */
    private static void faceAsWritten(String text) throws IOException {
        String document = Files.readString(Readme.DOCUMENT);
        String block = String.join("", Readme.blocks(Readme.section(document, "The public face"), "java"));
        for (String line : Readme.found(block, "(?m)^( *public .*?)[;{]? *$")) {
            Due.that("the text has " + line, text.contains(line));
        }
        List<String> headings = Readme.found(document, "the interface says: (---- .*)\\.");
        Due.is("headings", headings.size(), 6);
        Due.that("headings in the document's order", Readme.found(text, "// (---- .*)").equals(headings));
    }

    private static void library(String text) {
        String code = text.replaceAll("(?s)/\\*.*?\\*/", "").replaceAll("//.*|import .*", "");
        for (String name : Readme.found(code, "\\b([A-Z][A-Za-z]*\\.\\w+)")) {
            Due.that(name + " is of the library's part or a class inside", LIBRARY.contains(name)
                    || isInside(name.substring(0, name.indexOf('.'))));
        }
    }

    private static boolean isInside(String name) {
        for (Class<?> inside : TariffDesk.class.getDeclaredClasses()) {
            if (inside.getSimpleName().equals(name)) {
                return true;
            }
        }
        return false;
    }

    /** All calls of a run live in one room: after the constructor none of them makes anything. */
    private static void room() {
        com.sun.management.ThreadMXBean threads =
                (com.sun.management.ThreadMXBean) ManagementFactory.getThreadMXBean();
        long id = Thread.currentThread().getId();
        long most = 0;
        for (int round = 0; round < 3; round++) {
            long start = threads.getThreadAllocatedBytes(id);
            TariffDesk x = new TariffDesk();
            long made = threads.getThreadAllocatedBytes(id) - start;
            manyCalls(x);
            most = threads.getThreadAllocatedBytes(id) - start;
            Due.that("the constructor makes " + made + " bytes", made < 40000);
            Due.that("the calls make " + (most - made) + " bytes more", round == 0 || most - made < 1000);
        }
    }

    private static void manyCalls(TariffDesk x) {
        String text = "t+1+00@0063,f+0+20@1050,s-1+09@0462,o+3-30@3363";
        for (int i = 0; i < text.length(); i++) {
            x.letter(text.charAt(i));
        }
        x.fault();
        x.desk();
        for (int i = 0; i < 60; i++) {
            x.offer(i % 5, i % 7 - 3, 30 - i, 100 + 62 - i);
            x.would(i % 5, i % 7 - 3, 30 - i, 100 + 62 - i);
            x.see(i % 4, i, i);
            x.drawn(30, i, i % 3);
            x.image();
            x.restore();
            x.digest();
        }
    }
}
