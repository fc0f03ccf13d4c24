import java.io.IOException;
import java.lang.reflect.Field;
import java.lang.reflect.Modifier;
import java.nio.file.Files;
import java.util.ArrayList;
import java.util.LinkedHashSet;
import java.util.List;
import java.util.Set;
import java.util.TreeSet;
import java.util.regex.Pattern;

/** README.md says how to use the class and how to run its tests: that all of it is so. */
public final class ReadmeTest {
    private static final String MAIN = "src/main/java", TESTS = "src/test/java", SHARED = "../shared/tests";
    private static final String ALL_TESTS = ".ci/run\n";

    public static void main(String[] args) throws Exception {
        String text = Readme.text();
        Folder folder = new Folder();
        folder.copyAll(MAIN);
        folder.copyAll(TESTS);
        folder.copyAll(SHARED);
        example(text, folder);
        commandsOfTests(text, folder);
        folder.delete();
        callsOfExample(text);
        calls(text);
        constants(text);
        kinds(text);
        desks(text);
        classesInside(text);
        testsNamed(text);
        Due.end();
    }

    /** The program as it stands there, compiled and run by the commands that stand there. */
    private static void example(String text, Folder folder) throws Exception {
        String part = Readme.section(text, "How to use it");
        List<String> programs = Readme.blocks(part, "java");
        List<String> commands = Readme.blocks(part, "sh");
        Due.is("programs", programs.size(), 1);
        Due.is("commands for the program", commands.size(), 1);
        folder.put("Example.java", String.join("", programs));
        Folder.Ran ran = folder.run(String.join("", commands));
        Due.is("the program's end, having printed " + ran.printed(), ran.code(), 0);
        List<String> told = Readme.found(String.join("", programs), "println\\(.*\\); *// (-?\\d+)(?=:|\n)");
        List<String> printed = ran.printed().lines().toList();
        Due.is("lines that are printed", printed.size(), told.size());
        Due.is("lines that print, and tell what", told.size(),
                Readme.found(String.join("", programs), "(println)").size());
        for (int i = 0; i < Math.min(told.size(), printed.size()); i++) {
            Due.that("line " + (i + 1) + " told as " + told.get(i) + " is " + printed.get(i),
                    told.get(i).equals(printed.get(i)));
        }
    }

    /** CiTest runs the one that runs all, as that runs this test, too. */
    private static void commandsOfTests(String text, Folder folder) throws Exception {
        List<String> commands = Readme.blocks(Readme.section(text, "How to run its tests"), "sh");
        Due.that("the first command is " + ALL_TESTS, !commands.isEmpty() && commands.get(0).equals(ALL_TESTS));
        Due.is("commands for tests", commands.size(), 3);
        for (String command : commands) {
            if (!command.equals(ALL_TESTS)) {
                Folder.Ran ran = folder.run(command);
                Due.is(command + "ended, having printed " + ran.printed(), ran.code(), 0);
                Due.that(command + "ran a test", ran.printed().contains("as due"));
            }
        }
    }

    private static void callsOfExample(String text) throws IOException {
        String program = String.join("", Readme.blocks(text, "java"));
        for (String call : Readme.face()) {
            String name = nameOf(call);
            Due.that("the program calls " + name, Pattern.compile("\\bdesk\\." + name + "\\(").matcher(program).find());
        }
    }

    /** Each call in a row of its own, with the refusals that the document tells for it, in its order. */
    private static void calls(String text) throws IOException {
        String part = Readme.section(text, "All calls");
        String document = Files.readString(Readme.DOCUMENT);
        Due.that("the calls stand as in the document",
                Readme.found(part, "(?m)^\\| `(.*?)` \\|").equals(Readme.face()));
        for (String call : Readme.face()) {
            List<String> rows = Readme.found(part, "(?m)^\\| `" + Pattern.quote(call) + "` \\| (.*) \\|$");
            List<String> promises = Readme.found(document, "(?m)^`" + Pattern.quote(call) + "`: (.*)$");
            Due.is("rows of " + call, rows.size(), 1);
            Due.is("promises of " + call, promises.size(), 1);
            String row = String.join("", rows);
            Due.that("refusals of " + call, refusals(row.substring(row.lastIndexOf('|') + 1))
                    .equals(refusals(String.join("", promises))));
        }
    }

    private static List<String> refusals(String told) {
        Set<String> all = new LinkedHashSet<>(Readme.found(told, "\\b(UNKNOWN|OUTSIDE|STATE|FULL)\\b"));
        return new ArrayList<>(all);
    }

    private static void constants(String text) throws IllegalAccessException {
        for (Field field : TariffDesk.class.getDeclaredFields()) {
            if (Modifier.isPublic(field.getModifiers())) {
                String told = "`" + field.getName() + "`\\s\\((-?\\d+)\\)";
                Due.that(field.getName() + " is told as it is",
                        Readme.found(text, told).equals(List.of(String.valueOf(field.getInt(null)))));
            }
        }
    }

    private static void kinds(String text) {
        String part = Readme.section(text, "A desk as a text");
        List<String> ends = Readme.found(part, "\\| With `(.*?)` for 10 \\|");
        List<String> rows = Readme.found(part, "(?m)^\\| (\\d [A-Z]+ \\| `.` \\| .* \\| -?\\d+) \\|$");
        Due.is("texts behind the kind", ends.size(), 1);
        Due.is("kinds", rows.size(), 5);
        for (String row : rows) {
            String letter = row.substring(row.indexOf('`') + 1, row.indexOf('`') + 2);
            TariffDesk x = Due.desk(letter + String.join("", ends));
            Due.is("kind of " + letter, x.tariff(0, 0), row.charAt(0) - '0');
            Due.is("price of " + letter, x.price(0, 10), Due.MORE + Long.parseLong(row.substring(row.lastIndexOf(' ') + 1)));
        }
    }

    private static void desks(String text) {
        List<String> desks = Readme.found(text, "`([a-z][^`\n]*\\d@[^`\n]*)`");
        Due.is("texts of desks", desks.size(), 1);
        for (String desk : desks) {
            Due.desk(desk);
        }
    }

    private static void classesInside(String text) {
        Set<String> inside = new TreeSet<>();
        for (Class<?> one : TariffDesk.class.getDeclaredClasses()) {
            inside.add(one.getSimpleName());
        }
        String part = Readme.section(text, "How it is built");
        Due.that("the classes inside are " + inside, namesListed(part).equals(inside));
    }

    private static void testsNamed(String text) throws IOException {
        Set<String> files = new TreeSet<>();
        for (String file : Folder.names(TESTS)) {
            files.add(file.replace(".java", ""));
        }
        String part = Readme.section(text, "How to run its tests");
        Due.that("the tests are " + files, namesListed(part).equals(files));
    }

    /** The names ahead of the colon in each entry of a list. */
    private static Set<String> namesListed(String part) {
        Set<String> names = new TreeSet<>();
        for (String entry : Readme.found(part, "(?m)^- ((?:`\\w+`,?\\s+)*`\\w+`):")) {
            names.addAll(Readme.found(entry, "`(\\w+)`"));
        }
        return names;
    }

    private static String nameOf(String call) {
        return call.substring(call.indexOf(' ') + 1, call.indexOf('('));
    }
}
