import java.nio.charset.StandardCharsets;
import java.nio.file.Files;
import java.nio.file.Path;
import java.util.Arrays;
import java.util.HashSet;
import java.util.List;
import java.util.Set;
import java.util.regex.Matcher;
import java.util.regex.Pattern;

/** What of ../shared/LANGUAGE.md can be seen in the text of the class. */
public final class LanguageTest {
    private static final List<String> RULED_OUT = Arrays.asList(
        "\\bthrow\\b", "\\btry\\b", "\\bcatch\\b", "\\bfinally\\b", "\\bassert\\b", "\\bsynchronized\\b", "->", "::",
        "\\bprotected\\b", "\\bpackage\\b", "Exact\\b", "\\bequals\\b", "\\bhashCode\\b", "\\btoString\\b",
        "static\\s*\\{", "\\bSystem\\.(?!arraycopy)", "\\bRandom\\b", "\\bThread\\b", "\"");

    public static void main(String[] args) throws Exception {
        String source = new String(Files.readAllBytes(Path.of("src/main/java/RindDates.java")), StandardCharsets.ISO_8859_1);
        String code = source.replaceAll("(?s)/\\*.*?\\*/", "").replaceAll("//[^\n]*", "");
        for (String one : RULED_OUT) {
            Due.is("found " + one, Pattern.compile(one).matcher(code).find() ? 1 : 0, 0);
        }
        for (String line : source.split("\n")) {
            Due.is("a sign beyond 127 in " + line, line.chars().anyMatch(c -> c > 127) ? 1 : 0, 0);
            if (line.startsWith("import ")) {
                Due.is(line, line.equals("import java.util.Arrays;") ? 1 : 0, 1);
            }
        }
        names(code);
        lengths(code);
        Due.close("LanguageTest");
    }

    private static void names(String code) {
        Set<String> face = new HashSet<>();
        Matcher open = Pattern.compile("\n    public (?:int|long) (\\w+)\\(").matcher(code);
        while (open.find()) {
            face.add(open.group(1));
        }
        Due.is("public methods", face.size(), 41);
        Matcher hidden = Pattern.compile("private (?:static )?[\\w\\[\\]]+ (\\w+)\\(").matcher(code);
        while (hidden.find()) {
            Due.is("private " + hidden.group(1), face.contains(hidden.group(1)) ? 1 : 0, 0);
        }
        Matcher member = Pattern.compile("\n    (?!private |public |})\\S.*").matcher(code);
        while (member.find()) {
            Due.is("visible in the package: " + member.group().trim(), 1, 0);
        }
        Due.is("classes", code.split("\\bclass\\b").length - 1 <= 12 ? 1 : 0, 1);
    }

    private static void lengths(String code) {
        int start = 0;
        String[] lines = code.split("\n");
        for (int k = 0; k < lines.length; k++) {
            if (lines[k].matches("\\s+(public|private) .*\\) \\{")) {
                start = k;
            }
            if (lines[k].matches("    (    )?\\}")) {
                Due.is("the method at line " + start, k - start <= 60 || lines[start].contains("class") ? 1 : 0, 1);
                start = k;
            }
        }
    }
}
