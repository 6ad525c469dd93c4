import java.io.IOException;
import java.nio.file.Files;
import java.nio.file.Path;
import java.util.ArrayList;
import java.util.List;

/** The examples of README.md: they stand here word for word, and answer what is said there. */
public final class ReadmeTest {
    private static final Path README = Path.of("README.md");
    private static final Path SOURCE = Path.of("src/test/java/ReadmeTest.java");

    public static void main(String[] args) throws IOException {
        example();
        exampleStandsInReadme();
        rulesOfReadmeAreRules();
        Due.end();
    }

    private static void example() {
        // the example begins
        PinKindChecks checks = new PinKindChecks();
        int part = checks.part(0);                          // 0: the first part, on sheet 0
        int net = checks.net(0, 12);                        // 0: the first net, on sheet 0, with the name 12
        checks.pin(part, net, 1);                           // two pins of kind 1 on the net
        int pin = checks.pin(part, net, 1);                 // 1: the second pin
        checks.table(1, 1, 2);                              // pins of kind 1 must not meet: verdict 2
        String text = "part warn pins > 1 and not any 4 # 0";
        for (int i = 0; i < text.length(); i++) {
            checks.unit(text.charAt(i));                    // a rule's text comes character by character
        }
        int told = checks.rule();                           // 7: the first told rule; below 0: -1 minus the wrong word
        int open = checks.run();                            // 3 remarks are open, numbered from 0
        int rule = checks.remark(2, 0);                     // 1: the last one is of rule 1,
        int kind = checks.remark(2, 1);                     // 2: about a pin,
        int thing = checks.remark(2, 2);                    // 1: the second pin,
        int weight = checks.remark(2, 3);                   // 2: with the weight 2,
        int first = checks.remark(2, 4);                    // 1: first seen in version 1,
        int reason = checks.remark(2, 5);                   // -1: and not waived
        checks.waive(told, 0, part, 5);                     // the told rule's remark about the part is waived for reason 5
        checks.join(pin, PinKindChecks.NONE);               // the second pin leaves the net
        int version = checks.next();                        // 2
        int later = checks.run();                           // 2 remarks are open: the net has one pin, a pin has no net
        int closed = checks.closed(0, 0);                   // 2: the first closed remark was of rule 2 (about the net)
        // the example ends
        Due.is("part", part, 0);
        Due.is("net", net, 0);
        Due.is("pin", pin, 1);
        Due.is("told", told, 7);
        Due.is("open", open, 3);
        Due.is("rule", rule, 1);
        Due.is("kind", kind, 2);
        Due.is("thing", thing, 1);
        Due.is("weight", weight, 2);
        Due.is("first", first, 1);
        Due.is("reason", reason, -1);
        Due.is("version", version, 2);
        Due.is("later", later, 2);
        Due.is("closed", closed, 2);
        Due.remark(checks, 0, 7, 0, 0, 1, 1, 5);
        Due.remark(checks, 1, 4, 1, 0, 1, 2, -1);
        Due.remark(checks, 2, 0, 2, 1, 2, 2, -1);
        Due.remarks(checks, 3);
    }

    private static void exampleStandsInReadme() throws IOException {
        List<String> told = between(README, "```java", "```");
        List<String> made = between(SOURCE, "// the example begins", "// the example ends");
        Due.is("lines of the example", told.size(), made.size());
        for (int i = 0; i < told.size() && i < made.size(); i++) {
            if (!told.get(i).equals(made.get(i))) {
                Due.tell("README.md says '" + told.get(i) + "', this test '" + made.get(i) + "'");
            }
        }
    }

    private static void rulesOfReadmeAreRules() throws IOException {
        List<String> rules = between(README, "```text", "```");
        Due.is("there are examples of rules", rules.isEmpty(), false);
        for (String rule : rules) {
            Due.is("rule() of '" + rule + "'", Due.told(new PinKindChecks(), rule), 7);
        }
    }

    /** The lines between two marks, without the spaces at their ends. */
    private static List<String> between(Path file, String begins, String ends) throws IOException {
        List<String> lines = new ArrayList<>();
        boolean isInside = false;
        for (String line : Files.readAllLines(file)) {
            String bare = line.trim();
            if (isInside && bare.equals(ends)) {
                return lines;
            }
            if (isInside) {
                lines.add(bare);
            }
            isInside |= bare.equals(begins);
        }
        Due.tell(file + " has no lines between " + begins + " and " + ends);
        return lines;
    }
}
