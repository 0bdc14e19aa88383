import java.io.ByteArrayOutputStream;
import java.io.PrintStream;
import java.lang.reflect.Method;
import java.lang.reflect.Modifier;
import java.nio.file.Files;
import java.nio.file.Path;
import java.util.TreeSet;
import java.util.regex.Matcher;
import java.util.regex.Pattern;

/** What README.md says of the use of the class. */
final class ReadmeTest {
    private static final Path README = Path.of("README.md");
    private static final Path THIS_TEST = Path.of("src/test/java/ReadmeTest.java");

    public static void main(String[] args) throws Exception {
        String readme = Files.readString(README);
        theExampleIsTheOneThatRuns(readme);
        theExampleDoesWhatItSays();
        theTableNamesTheWholeFace(readme);
        Check.finish();
    }

    private static void theExampleIsTheOneThatRuns(String readme) throws Exception {
        String here = between("// the example begins\n", "// the example ends",
                Files.readString(THIS_TEST));
        Check.same("the example", plain(between("```java\n", "```", readme)), plain(here));
    }

    private static String between(String start, String end, String text) {
        Matcher matcher = Pattern.compile(Pattern.quote(start) + "(?s:(.*?))" + Pattern.quote(end))
                .matcher(text);
        return matcher.find() ? matcher.group(1) : "nothing between " + start + " and " + end;
    }

    /** The code without its comments and indents. */
    private static String plain(String code) {
        return code.replaceAll("//[^\n]*", "").replaceAll("\\s+", " ").trim();
    }

    private static void theExampleDoesWhatItSays() {
        PrintStream out = System.out;
        ByteArrayOutputStream printed = new ByteArrayOutputStream();
        System.setOut(new PrintStream(printed));
        // the example begins
        LampLeaseOffice office = new LampLeaseOffice();
        int ship = office.addShip();
        int lamp = office.addLamp(3);
        office.addOil(20);
        office.lease(ship, lamp, 5);
        office.passHours(2);
        int length = office.writeLamps();
        for (int index = 0; index < length; index++) {
            System.out.print(office.outputChar(index));
        }
        for (char sign : "oil 9;wait".toCharArray()) {
            office.feed(sign);
        }
        int commands = office.runCommands();
        int undoable = office.undo();
        // the example ends
        System.out.flush();
        System.setOut(out);
        Check.same("the output", "3s0e5", printed.toString());
        Check.same("the commands", 2, commands);
        Check.same("the calls that are left to undo", 5, undoable);
        Check.same("the hour", 2, office.hour());
        Check.same("the oil", 14, office.oil());
        Check.same("the coins", 85, office.coins(ship));
        Check.same("the lamp is bright", true, office.wasBright(lamp));
    }

    private static void theTableNamesTheWholeFace(String readme) {
        TreeSet<String> face = new TreeSet<>();
        for (Method method : LampLeaseOffice.class.getDeclaredMethods()) {
            if (Modifier.isPublic(method.getModifiers())) {
                face.add(method.getName());
            }
        }
        TreeSet<String> named = new TreeSet<>();
        Matcher names = Pattern.compile("`(\\w+)`").matcher(between("| --- |", "\n\n", readme));
        while (names.find()) {
            named.add(names.group(1));
        }
        Check.same("the calls in the table", face, named);
    }
}
