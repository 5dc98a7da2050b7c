import java.math.BigInteger;
import java.nio.charset.StandardCharsets;
import java.util.ArrayList;
import java.util.List;
import java.util.regex.Matcher;
import java.util.regex.Pattern;

/** How a tape is read, by a table of what may follow what. */
final class Telling {
    private static final Pattern TOKEN = Pattern.compile("[a-z]+|[0-9]+|[^ \\n]", Pattern.DOTALL);

    Oracle.Kin kin = new Oracle.Kin();
    int fault = 0;
    int place = Oracle.NONE;

    Telling(byte[] tape) {
        String text = new String(tape, StandardCharsets.ISO_8859_1);
        Matcher m = TOKEN.matcher(text);
        // what must come next of the line that is read: words, bounds "least..most", "?" what may come, ";"
        List<String> due = new ArrayList<>();
        String line = "";
        List<Integer> numbers = new ArrayList<>();
        List<String> marks = new ArrayList<>();
        while (m.find()) {
            String token = m.group();
            int at = m.start();
            if (due.isEmpty()) {
                boolean first = kin.lines == 0;
                if (first ? !token.equals("family") : !token.equals("person") && !token.equals("post")) {
                    fail(1, at);
                    return;
                }
                if (token.equals("person") && kin.persons.size() == 6 || token.equals("post") && kin.posts.size() == 2) {
                    fail(3, at);
                    return;
                }
                line = token;
                numbers.clear();
                marks.clear();
                String form = token.equals("family") ? "loaf 1..9 ?compare"
                    : token.equals("person") ? "like 0..100 nose 0..9 ?child,stays" : "strict 0..100 keen 0..9 looks 0..3 ?";
                due.addAll(List.of(form.split(" ")));
                continue;
            }
            String want = due.get(0);
            if (want.startsWith("?")) {
                if (token.equals(";")) {
                    take(line, numbers, marks);
                    due.clear();
                } else if (List.of(want.substring(1).split(",")).contains(token) && !marks.contains(token)) {
                    marks.add(token);
                } else {
                    fail(1, at);
                    return;
                }
            } else if (want.contains("..")) {
                if (!token.matches("[0-9]+")) {
                    fail(1, at);
                    return;
                }
                String[] bounds = want.split("\\.\\.");
                BigInteger n = new BigInteger(token);
                if (n.compareTo(new BigInteger(bounds[0])) < 0 || n.compareTo(new BigInteger(bounds[1])) > 0) {
                    fail(2, at);
                    return;
                }
                numbers.add(n.intValueExact());
                due.remove(0);
            } else {
                if (!token.equals(want)) {
                    fail(1, at);
                    return;
                }
                due.remove(0);
            }
        }
        if (!due.isEmpty()) fail(1, tape.length);
    }

    private void fail(int which, int at) {
        fault = which;
        place = at;
    }

    private void take(String line, List<Integer> n, List<String> marks) {
        kin.lines++;
        if (line.equals("family")) {
            kin.loaf = n.get(0);
            kin.compare = marks.size();
        } else if (line.equals("person")) {
            kin.persons.add(new int[] {n.get(0), n.get(1), marks.contains("child") ? 1 : 0, marks.contains("stays") ? 1 : 0});
        } else {
            kin.posts.add(new int[] {n.get(0), n.get(1), n.get(2)});
        }
    }
}
