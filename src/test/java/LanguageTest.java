import java.nio.file.Files;
import java.nio.file.Path;
import java.util.List;
import java.util.regex.Matcher;
import java.util.regex.Pattern;

/** What of ../shared/LANGUAGE.md can be seen in the text of the program; FaceTest sees to its rules 1 and 5. */
public final class LanguageTest {
    private static final Path PROGRAM = Path.of("src/main/java/TwinHost.java");
    private static final Pattern METHOD = Pattern.compile("^( +)(?!.*\\b(?:class|enum|if|for|while|switch|else)\\b).*\\((.*)\\) \\{$");
    private static final List<String> NOT_IN_IT = List.of("package", "import", "throw", "throws", "try", "catch", "finally",
        "synchronized", "assert", "instanceof", "native", "volatile", "double", "float", "Thread", "System", "Object",
        "hashCode", "equals", "toString", "var");

    public static void main(String[] args) throws Exception {
        List<String> lines = Files.readAllLines(PROGRAM);
        String code = String.join("\n", lines).replaceAll("(?s)/\\*.*?\\*/", "").replaceAll("//[^\n]*", "");
        words(code);
        methods(lines);
        madeInConstructorsAlone(code);
        Check.end();
    }

    private static void words(String code) {
        for (String word : NOT_IN_IT) {
            Check.due("rules 4 to 6, 13: " + word, Pattern.compile("\\b" + word + "\\b").matcher(code).find(), false);
        }
        Check.due("rule 2: lambda", code.contains("->"), false);
        Check.due("rule 2: method reference", code.contains("::"), false);
        Check.due("rule 5: static block", Pattern.compile("static\\s*\\{").matcher(code).find(), false);
        Check.due("rule 10: joined texts", code.contains("\""), false);
        Check.due("rule 3: characters", code.chars().allMatch(c -> c < 128), true);
        for (Matcher loop = Pattern.compile("\\b(while|do)\\b").matcher(code); loop.find();) {
            Check.due("rule 9: a loop without a counter, " + loop.group(), true, false);
        }
    }

    /** What README.md says too: all there is is made with a field or in the one constructor that makes the guests. */
    private static void madeInConstructorsAlone(String code) {
        Pattern field = Pattern.compile(" +final [\\w\\[\\]]+ \\w+ = new .*;");
        Pattern guests = Pattern.compile(" +guests = new Guest\\[\\] \\{new Guest\\(\\), new Guest\\(\\)\\};");
        for (String line : code.split("\n")) {
            if (Pattern.compile("\\bnew\\b").matcher(line).find()) {
                boolean once = field.matcher(line).matches() || guests.matcher(line).matches();
                Check.due("rule 12: made once," + line, once, true);
            }
        }
    }

    private static void methods(List<String> lines) {
        int found = 0;
        for (int start = 0; start < lines.size(); start++) {
            Matcher method = METHOD.matcher(lines.get(start));
            if (!method.matches()) {
                continue;
            }
            found++;
            int end = lines.subList(start, lines.size()).indexOf(method.group(1) + "}");
            Check.due("rule 11: short, " + lines.get(start), end > 0 && end <= 60, true);
            Check.due("rule 11: parameters, " + lines.get(start), method.group(2).split(",").length <= 7, true);
        }
        Check.due("methods were found", found > 40, true);
    }
}
