import java.nio.file.Files;
import java.nio.file.Path;
import java.util.regex.Matcher;
import java.util.regex.Pattern;

/** The rules of LANGUAGE.md that can be read off the words of the source. */
final class LanguageTest {
    private static final Path SOURCE = Path.of("src/main/java/LampLeaseOffice.java");
    private static final String[] UNWANTED = {
        "->", "::", "\\btry\\b", "\\bcatch\\b", "\\bfinally\\b", "\\bsynchronized\\b",
        "\\bassert\\b", "\\bprotected\\b", "\\bpackage\\b", "\\bvar\\b", "@\\w+", "\\w+Exact\\b",
        "\\bSystem\\.(?!arraycopy)", "\" *\\+", "\\+ *\"", "\\bNaN\\b", "\\bObject\\b", "<\\w+>",
        "\\bequals\\(", "\\bhashCode\\b", "\\btoString\\b", "\\bwhile \\(true\\)", "for \\(;;\\)",
        "\\bstatic \\{", "[^\\x01-\\x7f]"};
    private static final Pattern METHOD = Pattern.compile(
            "(?m)^( +)(?:[\\w\\[\\]]+ )+\\w+\\([^;{}]*\\)[^;{}]*\\{\n(?s:.*?)^\\1\\}");
    private static final Pattern CONSTRUCTOR = Pattern.compile(
            "(?m)^( +)(?:public )?[A-Z]\\w*\\([^;{}]*\\) \\{\n(?s:.*?)^\\1\\}");
    private static final Pattern MADE = Pattern.compile("(?m)^.*\\bnew\\b.*$");
    private static final int MOST_LINES = 60;
    private static final int MOST_CLASSES = 12;

    public static void main(String[] args) throws Exception {
        String source = Files.readString(SOURCE);
        String code = source.replaceAll("(?s)/\\*.*?\\*/", "").replaceAll("//[^\n]*", "");
        for (String unwanted : UNWANTED) {
            Matcher matcher = Pattern.compile(unwanted).matcher(code);
            Check.same("no " + unwanted, "", matcher.find() ? matcher.group() : "");
        }
        Check.same("the imports", 1L, count("(?m)^import ", code));
        Check.same("the import", 1L, count("import java\\.util\\.NoSuchElementException;", code));
        Check.same("few classes", true,
                count("\\b(class|enum|interface|record) \\w+ ", code) <= MOST_CLASSES);
        Check.same("static fields are final", 0L,
                count("(?m)^ +(private )?static (?!final)[^(]*[=;]", code));
        onlyConstructorsMakeObjects(code);
        Matcher methods = METHOD.matcher(code);
        int found = 0;
        while (methods.find()) {
            found++;
            long lines = methods.group().lines().count();
            Check.same("short enough: " + methods.group().lines().findFirst().orElse(""), true,
                    lines <= MOST_LINES);
        }
        Check.same("methods were found", true, found > 100);
        Check.finish();
    }

    /** All calls of a run live in one room, so a call makes no object but its exception. */
    private static void onlyConstructorsMakeObjects(String code) {
        Matcher made = MADE.matcher(CONSTRUCTOR.matcher(code).replaceAll(""));
        int thrown = 0;
        while (made.find()) {
            String line = made.group().trim();
            boolean exception = line.startsWith("throw new ");
            thrown += exception ? 1 : 0;
            Check.same("made by a call: " + line, true, exception || line.startsWith("final "));
        }
        Check.same("exceptions were found", true, thrown > 10);
        Check.same("constructors throw nothing", 0L, CONSTRUCTOR.matcher(code).results()
                .filter(constructor -> constructor.group().contains("throw")).count());
    }

    private static long count(String pattern, String text) {
        return Pattern.compile(pattern).matcher(text).results().count();
    }
}
