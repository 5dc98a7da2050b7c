import java.nio.file.Files;
import java.nio.file.Path;
import java.util.ArrayList;
import java.util.HashSet;
import java.util.List;
import java.util.Set;
import java.util.regex.Matcher;
import java.util.regex.Pattern;

/** Looks through the source for what LANGUAGE.md rules out, as far as text shows it. */
public final class LanguageTest {
    private static int wrong = 0;

    private static void wrong(String what) {
        wrong++;
        System.out.println(what);
    }

    public static void main(String[] args) throws Exception {
        String source = Files.readString(Path.of("src/main/java/OnePassport.java"));
        String code = source.replaceAll("(?s)/\\*.*?\\*/", "").replaceAll("//[^\n]*", "");
        String bare = code.replaceAll("\"[^\"\n]*\"", "\"\"").replaceAll("'(\\\\.|[^'])'", "' '");
        words(bare);
        imports(bare);
        methods(bare);
        int classes = count(bare, "\\b(class|interface|enum|record) [A-Z]");
        if (classes > 12) wrong(classes + " classes");
        for (int i = 0; i < source.length(); i++) if (source.charAt(i) > 126) wrong("a sign above 126 at " + i);
        System.out.println(wrong + " wrong");
        if (wrong != 0) System.exit(1);
    }

    private static int count(String text, String pattern) {
        Matcher m = Pattern.compile(pattern).matcher(text);
        int n = 0;
        while (m.find()) n++;
        return n;
    }

    private static void words(String bare) {
        String[] none = {"\\bthrow\\b", "\\bthrows\\b", "\\btry\\b", "\\bcatch\\b", "\\bfinally\\b", "\\bsynchronized\\b", "\\bassert\\b",
            "->", "::", "\\binstanceof\\b", "\\bdouble\\b", "\\bfloat\\b", "\\bvar\\b", "\\bnative\\b", "\\bvolatile\\b", "Exact\\(",
            "\\bSystem\\.(?!arraycopy)", "\\bObject\\b", "\\bThread\\b", "\\bRandom\\b", "\\bpackage\\b", "\\bprotected\\b", "@",
            "\"\"\\s*\\+", "\\+\\s*\"\"", "\\bequals\\b", "\\bhashCode\\b", "\\btoString\\b", "static \\{", "\\bchar\\b"};
        for (String p : none) if (count(bare, p) > 0) wrong("the source has " + p);
        Matcher m = Pattern.compile("\\bstatic (?!final|int |long |boolean |void )").matcher(bare);
        while (m.find()) wrong("a static that is not final: " + bare.substring(m.start(), Math.min(bare.length(), m.start() + 40)));
        m = Pattern.compile("\\bMath\\.(\\w+)|\\bInteger\\.(\\w+)|\\bLong\\.(\\w+)|\\bArrays\\.(\\w+)").matcher(bare);
        while (m.find()) {
            if (!Set.of("Math.min", "Math.max", "Math.abs", "Integer.bitCount", "Long.bitCount", "Arrays.fill").contains(m.group())) {
                wrong("the source calls " + m.group());
            }
        }
    }

    private static void imports(String bare) {
        Matcher m = Pattern.compile("import ([\\w.]+);").matcher(bare);
        while (m.find()) if (!m.group(1).equals("java.util.Arrays")) wrong("imports " + m.group(1));
    }

    /** Names, lengths and parameters of the methods, and that no loop is without a condition. */
    private static void methods(String bare) {
        Pattern head = Pattern.compile("^( +)((?:public |private |static |final )*)([\\w\\[\\]]+) (\\w+)\\(([^)]*)\\) \\{$");
        Set<String> face = new HashSet<>();
        List<String> others = new ArrayList<>();
        String[] lines = bare.split("\n", -1);
        for (int i = 0; i < lines.length; i++) {
            Matcher m = head.matcher(lines[i]);
            if (!m.find() || m.group(3).matches("else|new|public|private")) continue;
            String indent = m.group(1);
            int to = i;
            while (!lines[to].equals(indent + "}")) to++;
            if (to - i > 60) wrong(m.group(4) + " has " + (to - i) + " lines");
            if (m.group(5).split(",").length > 7) wrong(m.group(4) + " has too many parameters");
            if (indent.length() == 4 && m.group(2).contains("public")) face.add(m.group(4));
            else others.add(m.group(4));
            if (indent.length() == 4 && !m.group(2).matches("(public|private) .*")) wrong(m.group(4) + " is seen in its package");
        }
        if (face.size() != 59) wrong("the face has " + face.size() + " methods");
        for (String other : others) if (face.contains(other)) wrong("another method has the name " + other);
        if (count(bare, "for \\(;;|while \\(true|for \\([^;]*;\\s*;") > 0) wrong("a loop without a condition");
    }
}
