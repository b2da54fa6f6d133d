import java.io.IOException;
import java.lang.reflect.Method;
import java.lang.reflect.Modifier;
import java.nio.file.DirectoryStream;
import java.nio.file.Files;
import java.nio.file.Path;
import java.util.Set;
import java.util.TreeSet;
import java.util.regex.Matcher;
import java.util.regex.Pattern;

/** What README.md says besides its blocks (see ReadmeCalls): the calls, the numbers, the tests and cases that there are. */
public final class ReadmeTest {
    public static void main(String[] args) throws Exception {
        String page = Files.readString(Path.of("README.md"));
        everyCallIsShown(page);
        theConstantsAreAsListed(page);
        theTestsAreAsListed(page);
        theCasesStand(page);
        Due.end();
    }

    private static void everyCallIsShown(String page) {
        for (Method m : AntFloor.class.getDeclaredMethods()) {
            if (Modifier.isPublic(m.getModifiers())) {
                Due.isTrue(m.getName() + " is shown", page.contains("\nx." + m.getName() + "("));
            }
        }
    }

    private static void theConstantsAreAsListed(String page) throws Exception {
        Matcher row = Pattern.compile("\\| `([A-Z]+)` \\| (-\\d+) \\|").matcher(page);
        int rows = 0;
        while (row.find()) {
            rows++;
            Due.is(row.group(1), AntFloor.class.getField(row.group(1)).getInt(null), Integer.parseInt(row.group(2)));
        }
        Due.is("constants", rows, 8);
    }

    private static void theTestsAreAsListed(String page) throws IOException {
        Set<String> listed = new TreeSet<>();
        Matcher name = Pattern.compile("`(\\w+Test)`").matcher(page);
        while (name.find()) {
            listed.add(name.group(1));
        }
        Set<String> there = new TreeSet<>();
        try (DirectoryStream<Path> files = Files.newDirectoryStream(Path.of("src/test/java"), "*Test.java")) {
            for (Path file : files) {
                there.add(file.getFileName().toString().replace(".java", ""));
            }
        }
        Due.isTrue("the tests listed, " + listed + ", are " + there, listed.equals(there));
    }

    private static void theCasesStand(String page) throws Exception {
        Class<?>[] tests = {TermsOfFloorTest.class, TermsOfRoadsTest.class, PromisesOfFloorTest.class,
            PromisesOfStepsTest.class, PromisesOfRoadsTest.class, PromisesOfSheetsTest.class};
        Set<String> cases = new TreeSet<>();
        for (Class<?> test : tests) {
            for (Method m : test.getDeclaredMethods()) {
                cases.add(m.getName());
            }
        }
        Matcher name = Pattern.compile("`((promise|terms)\\w*_\\w+)`").matcher(page);
        int named = 0;
        while (name.find()) {
            named++;
            Due.isTrue("there is a case " + name.group(1), cases.contains(name.group(1)));
        }
        Due.isTrue("some cases are named", named > 0);
    }
}
