import java.lang.reflect.Field;
import java.lang.reflect.Method;
import java.lang.reflect.Modifier;
import java.nio.charset.StandardCharsets;
import java.nio.file.Files;
import java.nio.file.Path;
import java.util.Arrays;
import java.util.List;
import java.util.Set;
import java.util.TreeSet;
import java.util.regex.Matcher;
import java.util.regex.Pattern;

/** What of ../shared/LANGUAGE.md can be seen in the text of the class and in its members. */
public final class LanguageTest {
    private static final List<String> RULED_OUT = Arrays.asList(
        "\\bthrow\\b", "\\bthrows\\b", "\\btry\\b", "\\bcatch\\b", "\\bfinally\\b", "\\bassert\\b", "\\bsynchronized\\b", "->", "::",
        "\\bprotected\\b", "\\bpackage\\b", "Exact\\b", "\\bhashCode\\b", "\\bequals\\s*\\(\\s*Object", "String\\s+toString\\s*\\(",
        "static\\s*\\{", "\\bSystem\\.(?!arraycopy)", "\\bRandom\\b", "\\bThread\\b", "\\bRuntime\\b", "\\bjava\\.(?!util\\.)",
        "\\bMap\\b", "\\bSet\\b", "\\bHashMap\\b", "\\bOptional\\b", "\\bStream\\b");
    private static final List<String> IMPORTS = Arrays.asList("java.util.Arrays", "java.util.ArrayList", "java.util.List",
        "java.util.Iterator");
    private static final String FACE = "row(int,int) lay(int,int,int) at(int,int) tear(int) copy(int,int,int,int,int) mean(int) "
        + "text(int,int) put(int,int,int) fault(int) farm(int) wheel(int,int) mark(int,int) holds(int,int) anger(int) day() say(int) "
        + "make(int) sell(int) undo(int) keep(int) on(int) peace() plan(int,int,int,int) through(int) about(int) sure(int) "
        + "salts(int,int) kinds(int,int) test(int,int) shows(int,int) duel(int) odds(int,int,int) mid(int,int,int) lots(int,int) "
        + "asked() upper():long lower():long count(int) finding() findings(int) digest():long";

    public static void main(String[] args) throws Exception {
        String source = new String(Files.readAllBytes(Path.of("src/main/java/RindDates.java")), StandardCharsets.ISO_8859_1);
        String code = withoutTexts(source);
        for (String one : RULED_OUT) {
            Due.is("found " + one, Pattern.compile(one).matcher(code).find() ? 1 : 0, 0);
        }
        Due.is("signs beyond 127", source.chars().anyMatch(c -> c > 127) ? 1 : 0, 0);
        Matcher imports = Pattern.compile("\\bimport\\s+([\\w.*]+)\\s*;").matcher(code);
        while (imports.find()) {
            Due.is("import " + imports.group(1), IMPORTS.contains(imports.group(1)) ? 1 : 0, 1);
        }
        lengths(code);
        face();
        members(RindDates.class);
        for (Class<?> inside : RindDates.class.getDeclaredClasses()) {
            inside(inside);
        }
        Due.close("LanguageTest");
    }

    /** Without comments, and without what stands between quotes; a case with an arrow is one with a colon. */
    private static String withoutTexts(String source) {
        String code = source.replaceAll("(?s)/\\*.*?\\*/", "").replaceAll("//[^\n]*", "");
        code = code.replaceAll("\"(\\\\.|[^\"\\\\])*\"", "0").replaceAll("'(\\\\.|[^'\\\\])+'", "0");
        return code.replaceAll("\\b(case\\b[^;:{}]*?|default\\s*)->", "$1:");
    }

    private static void face() {
        Set<String> due = new TreeSet<>();
        for (String one : FACE.split(" ")) {
            due.add(one.contains(":") ? one : one + ":int");
        }
        Set<String> open = new TreeSet<>();
        for (Method m : RindDates.class.getDeclaredMethods()) {
            if (Modifier.isPublic(m.getModifiers()) && !Modifier.isStatic(m.getModifiers())) {
                StringBuilder takes = new StringBuilder();
                for (Class<?> type : m.getParameterTypes()) {
                    takes.append(takes.length() == 0 ? "" : ",").append(type.getName());
                }
                open.add(m.getName() + "(" + takes + "):" + m.getReturnType().getName());
            }
        }
        for (String one : due) {
            Due.is("the face has " + one, open.contains(one) ? 1 : 0, 1);
        }
        for (String one : open) {
            Due.is("the document has " + one, due.contains(one) ? 1 : 0, 1);
        }
        Due.is("the class is public and final", RindDates.class.getModifiers() & (Modifier.PUBLIC | Modifier.FINAL),
            Modifier.PUBLIC | Modifier.FINAL);
        Due.is("constructors", RindDates.class.getDeclaredConstructors().length, 1);
    }

    private static Set<String> names() {
        Set<String> names = new TreeSet<>();
        for (String one : FACE.split(" ")) {
            names.add(one.substring(0, one.indexOf('(')));
        }
        return names;
    }

    private static void members(Class<?> own) {
        Set<String> open = new TreeSet<>();
        Set<String> hidden = new TreeSet<>();
        for (Method m : own.getDeclaredMethods()) {
            if (!m.isSynthetic()) {
                (Modifier.isPrivate(m.getModifiers()) ? hidden : open).add(m.getName());
                Due.is("what " + m.getName() + " takes is 7 at most", m.getParameterCount() <= 7 ? 1 : 0, 1);
            }
        }
        Set<String> face = names();
        for (String name : open) {
            Due.is(name + " is of the face", face.contains(name) ? 1 : 0, 1);
        }
        for (String name : hidden) {
            Due.is("the private " + name + " bears no public name", face.contains(name) ? 1 : 0, 0);
        }
        Set<String> constants = new TreeSet<>(Arrays.asList("BAD", "FULL", "FINDING", "STATE", "SPENT", "NONE"));
        for (Field f : own.getDeclaredFields()) {
            boolean isPrivate = Modifier.isPrivate(f.getModifiers());
            Due.is(f.getName() + " is private, or of the face", f.isSynthetic() || isPrivate != constants.contains(f.getName()) ? 1 : 0, 1);
            fieldIs(f);
        }
    }

    private static void fieldIs(Field f) {
        if (Modifier.isStatic(f.getModifiers()) && !f.isSynthetic()) {
            Due.is("the static " + f.getName() + " is final", Modifier.isFinal(f.getModifiers()) ? 1 : 0, 1);
        }
    }

    private static void inside(Class<?> inside) {
        int kind = inside.getModifiers();
        Due.is(inside.getName() + " is static", Modifier.isStatic(kind) ? 1 : 0, 1);
        Due.is(inside.getName() + " is not public", Modifier.isPublic(kind) || Modifier.isProtected(kind) ? 1 : 0, 0);
        for (Method m : inside.getDeclaredMethods()) {
            boolean bears = Modifier.isPrivate(m.getModifiers()) && names().contains(m.getName());
            Due.is("the private " + m.getName() + " bears no public name", bears && !m.isSynthetic() ? 1 : 0, 0);
        }
        int fields = 0;
        for (Field f : inside.getDeclaredFields()) {
            fieldIs(f);
            fields += Modifier.isStatic(f.getModifiers()) ? 0 : 1;
        }
        Due.is("fields of " + inside.getName(), fields <= 20 ? 1 : 0, 1);
        Due.is("classes", RindDates.class.getDeclaredClasses().length <= 12 ? 1 : 0, 1);
    }

    /** A method goes from its header's ") {" to the brace that ends it. */
    private static void lengths(String code) {
        String named = "\\b(?!(?:else|new|return)\\b)[\\w\\]>]+\\s+(?!(?:if|for|while|switch)\\b)(\\w+)";
        Matcher header = Pattern.compile(named + "\\s*\\([^(){};]*\\)\\s*\\{").matcher(code);
        int methods = 0;
        while (header.find()) {
            methods++;
            int depth = 1;
            int lines = 1;
            for (int i = header.end(); i < code.length() && depth > 0; i++) {
                char c = code.charAt(i);
                depth += c == '{' ? 1 : c == '}' ? -1 : 0;
                lines += c == '\n' ? 1 : 0;
            }
            Due.is("lines of " + header.group(1), lines <= 65 ? 0 : lines, 0);
        }
        Due.is("the methods were seen", methods >= 41 ? 1 : 0, 1);
    }
}
