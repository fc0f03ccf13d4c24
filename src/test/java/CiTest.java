import static java.nio.file.attribute.PosixFilePermission.OWNER_EXECUTE;

import java.io.IOException;
import java.nio.file.Files;
import java.nio.file.Path;
import java.util.List;

/** The command that README.md names for all tests: that it runs every one, and fails if one fails. */
public final class CiTest {
    private static final String CLASS = "src/main/java/TariffDesk.java";
    private static final String FIRST = "src/test/java/FirstTest.java", SECOND = "src/test/java/SecondTest.java";
    private static final String SHARED = "../shared/tests/FirstRuns.java", OTHER = "../shared/tests/OtherRuns.java";
    private static final List<String> TESTS = List.of(FIRST, SECOND, SHARED, OTHER);
    private static final String BY_CODE = "System.exit(1);", BY_THROWING = "throw new IllegalStateException();";
    private static final String BY_NOT_COMPILING = "int due = \"\";";

    private static String script;
    private static String command;

    public static void main(String[] args) throws Exception {
        List<String> commands = Readme.blocks(Readme.section(Readme.text(), "How to run its tests"), "sh");
        Due.that("README.md has a command for all tests", !commands.isEmpty());
        script = commands.isEmpty() ? "none" : commands.get(0).trim();
        Due.that("it can be run", Files.getPosixFilePermissions(Path.of(script)).contains(OWNER_EXECUTE));
        // by bash, as a folder for passing files need not let anything be executed
        command = "bash " + script;
        Folder folder = new Folder();
        folder.copy(script);
        folder.put("src/test/java/Helper.java", "final class Helper { static int due = 1; }");
        allPass(folder);
        for (String test : TESTS) {
            oneFails(folder, test, BY_CODE);
        }
        for (String test : List.of(FIRST, SHARED)) {
            oneFails(folder, test, BY_THROWING);
            oneFails(folder, test, BY_NOT_COMPILING);
        }
        classFails(folder);
        noneFound(folder);
        folder.delete();
        Due.end();
    }

    private static void allPass(Folder folder) throws Exception {
        putAll(folder);
        Folder.Ran ran = folder.run(command);
        Due.is("all pass, and it printed " + ran.printed(), ran.code(), 0);
        Due.that("four are counted", ran.printed().contains("4 passed, 0 failed"));
        for (String test : TESTS) {
            Due.that(test + " is run", ran.printed().contains(nameOf(test) + " ran"));
        }
        Due.is("from another folder", folder.run("cd / && bash " + folder.project() + "/" + script).code(), 0);
    }

    /** The others are run all the same. */
    private static void oneFails(Folder folder, String test, String how) throws Exception {
        putAll(folder);
        folder.put(test, test(test, how));
        Folder.Ran ran = folder.run(command);
        Due.that(test + " fails by " + how, ran.code() != 0);
        Due.that(test + " is not counted as passed", !ran.printed().contains(" 0 failed"));
        for (String other : TESTS) {
            // those of the project are compiled together
            boolean stands = !how.equals(BY_NOT_COMPILING) || other.startsWith("..") && !other.equals(test);
            Due.that(other + " is run", !stands || ran.printed().contains(nameOf(other) + " ran"));
        }
    }

    private static void classFails(Folder folder) throws Exception {
        putAll(folder);
        folder.put(CLASS, "public final class TariffDesk {");
        Due.that("a class that does not compile fails", folder.run(command).code() != 0);
        folder.drop(CLASS);
        Due.that("no class fails", folder.run(command).code() != 0);
    }

    private static void noneFound(Folder folder) throws Exception {
        putAll(folder);
        folder.drop(SHARED);
        folder.drop(OTHER);
        Due.that("no test under ../shared/tests fails", folder.run(command).code() != 0);
        putAll(folder);
        folder.drop(FIRST);
        folder.drop(SECOND);
        Due.that("no test of the project fails", folder.run(command).code() != 0);
    }

    private static void putAll(Folder folder) throws IOException {
        folder.put(CLASS, "public final class TariffDesk { public int desk() { return 1; } }");
        for (String test : TESTS) {
            folder.put(test, test(test, ""));
        }
    }

    private static String test(String file, String atEnd) {
        String due = file.startsWith("..") ? "1" : "Helper.due";
        return "public final class " + nameOf(file) + " { public static void main(String[] args) {"
                + " System.out.println(\"" + nameOf(file) + " ran\");"
                + " if (new TariffDesk().desk() != " + due + ") { System.exit(1); } " + atEnd + " } }";
    }

    private static String nameOf(String file) {
        return file.substring(file.lastIndexOf('/') + 1, file.lastIndexOf('.'));
    }
}
