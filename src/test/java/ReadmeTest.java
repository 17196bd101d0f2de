import java.nio.file.Files;
import java.nio.file.Path;
import java.util.Arrays;
import java.util.Set;
import java.util.TreeSet;
import java.util.regex.Matcher;
import java.util.regex.Pattern;

/** The calls that README.md shows, one after the other, answer as it says; and it shows each of them. */
public final class ReadmeTest {
    private static final Path README = Path.of("README.md");
    private static final Pattern SHOWN =
        Pattern.compile("(?m)^budget\\.(\\w+)\\(([-0-9, ]*)\\);\\s*// (-?\\d+|[A-Z_]+)\\b");

    public static void main(String[] args) throws Exception {
        Due due = new Due();
        HeadBudgets budget = new HeadBudgets();
        Set<String> shown = new TreeSet<>();
        Matcher matcher = SHOWN.matcher(Files.readString(README));
        while (matcher.find()) {
            int[] with = Arrays.stream(matcher.group(2).split(","))
                .map(String::trim).filter(each -> !each.isEmpty()).mapToInt(Integer::parseInt).toArray();
            Call call = new Call(matcher.group(1), with);
            due.is("README.md: " + call, call.answer(budget), number(matcher.group(3)));
            shown.add(call.name());
        }
        due.holds("README.md shows each call, not only " + shown, shown.containsAll(Arrays.asList(Calls.NAMES)));
        due.close("ReadmeTest");
    }

    private static int number(String answer) {
        return switch (answer) {
            case "INVALID_ARGUMENT" -> HeadBudgets.INVALID_ARGUMENT;
            case "ILLEGAL_STATE" -> HeadBudgets.ILLEGAL_STATE;
            case "CAPACITY_EXCEEDED" -> HeadBudgets.CAPACITY_EXCEEDED;
            case "NONE" -> HeadBudgets.NONE;
            default -> Integer.parseInt(answer);
        };
    }
}
