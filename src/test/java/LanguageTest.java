import java.io.IOException;
import java.nio.file.Files;
import java.nio.file.Path;
import java.util.regex.Matcher;
import java.util.regex.Pattern;

/** What can be told of the rules of LANGUAGE.md from the source, read as text. */
public final class LanguageTest {
    private static final Due DUE = new Due("LanguageTest");

    public static void main(String[] args) throws IOException {
        String source = Files.readString(Path.of("src/main/java/FairWheel.java"));
        String code = source.replaceAll("(?s)/\\*.*?\\*/", "").replaceAll("//[^\n]*", "");
        String[] refused = {
            "\\bthrow\\b", "\\bthrows\\b", "\\btry\\b", "\\bcatch\\b", "\\bsynchronized\\b", "\\bassert\\b", "->",
            "::", "\\bstatic\\s*\\{", "\\bpackage\\b", "\\bvolatile\\b", "\\bRandom\\b", "\\bThread\\b", "Exact\\b",
            "\\bequals\\b", "\\bhashCode\\b", "\\btoString\\b", "\\bdouble\\b", "\\bfloat\\b", "\\bprotected\\b",
            "\\bwhile\\b", "\"", "\\[\\]\\s*\\[\\]", "\\bObject\\b",
        };
        for (String word : refused) {
            DUE.is("rule: no " + word, false, Pattern.compile(word).matcher(code).find());
        }
        Matcher imports = Pattern.compile("import ([^;]*);").matcher(code);
        while (imports.find()) {
            DUE.is("rule 4: import " + imports.group(1), true, imports.group(1).equals("java.util.Arrays"));
        }
        Matcher library = Pattern.compile("\\b(System|Arrays|Math)\\.(\\w+)").matcher(code);
        while (library.find()) {
            String name = library.group(1) + "." + library.group(2);
            boolean fine = "System.arraycopy Arrays.fill Arrays.copyOf Math.max Math.min".contains(name);
            DUE.is("rule 4: " + name, true, fine);
        }
        methods(code);
        DUE.is("rule 11: classes", true, Pattern.compile("\\bclass\\b").matcher(code).results().count() <= 12);
        DUE.end();
    }

    private static void methods(String code) {
        Pattern head = Pattern.compile(
                "\n( +)(?:private|public) (?:static )?[\\w\\[\\]]+ ?\\w*\\(([^)]*)\\) \\{\n(.*?)\n\\1\\}", Pattern.DOTALL);
        Matcher m = head.matcher(code);
        int found = 0;
        while (m.find()) {
            found++;
            DUE.is("rule 11: lines of" + m.group().lines().skip(1).findFirst().orElse(""), true,
                    m.group(3).split("\n").length <= 60);
            DUE.is("rule 11: parameters", true, m.group(2).split(",").length <= 7);
        }
        DUE.is("methods were found", true, found > 80);
    }

    private LanguageTest() {
    }
}
