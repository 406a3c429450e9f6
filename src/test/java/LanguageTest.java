import java.io.IOException;
import java.nio.file.Files;
import java.nio.file.Path;
import java.util.List;
import java.util.regex.Matcher;
import java.util.regex.Pattern;

/** What can be seen of ../shared/LANGUAGE.md by looking at the text of the class; .ci/run starts it in the project's folder. */
public final class LanguageTest {
    /** The class does without some things, too, that the rules would allow: a try, inheritance, fractions, arrows in a switch. */
    private static final List<String> NOT_THERE = List.of(
        "->", "::", "Exact\\(", "\\bcatch\\b", "\\btry\\b", "\\bfinally\\b", "\\bsynchronized\\b", "\\bassert\\b", "\\bpackage\\b",
        "\\bstatic\\s*\\{", "\"\\s*\\+", "\\+\\s*\"", "\\bprotected\\b", "\\bdouble\\b", "\\bfloat\\b", "\\bSystem\\.(?!arraycopy)",
        "\\bRandom\\b", "\\bThread\\b", "\\bextends\\b", "\\bvar\\b", "@");

    public static void main(String[] args) throws IOException {
        Path file = Path.of("src/main/java/Portinghall.java");
        String text = Files.readString(file).replaceAll("(?s)/\\*.*?\\*/", "").replaceAll("//[^\n]*", "");
        for (String pattern : NOT_THERE) {
            Matcher found = Pattern.compile(pattern).matcher(text);
            Check.note(!found.find(), "the class has " + pattern);
        }
        Matcher imports = Pattern.compile("import ([^;]*);").matcher(text);
        while (imports.find()) {
            Check.is("the import", imports.group(1), "java.util.Arrays");
        }
        Matcher thrown = Pattern.compile("throw ([^(;]*)").matcher(text);
        while (thrown.find()) {
            Check.note(thrown.group(1).matches("new (IndexOutOfBounds|IllegalArgument|IllegalState)Exception"),
                "the class has throw " + thrown.group(1));
        }
        Check.note(text.chars().allMatch(c -> c < 128), "the class has a sign above 127");
        Check.note(text.split("\\bclass\\b").length - 1 <= 12, "the class has too many classes");
        for (String member : text.split("\n\n")) {
            Check.note(member.lines().count() <= 60, "a method is too long: " + member);
        }
        Check.finish("LanguageTest");
    }
}
