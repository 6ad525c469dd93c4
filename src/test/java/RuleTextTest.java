/** Rules told as words: which word is wrong, and for which things a condition holds. */
public final class RuleTextTest {
    private static final int NONE = PinKindChecks.NONE;

    public static void main(String[] args) {
        subjectsAndWeights();
        wrongWords();
        endsTooSoon();
        wordsOfSubjects();
        brackets();
        spaces();
        signs();
        strengths();
        wrapping();
        values();
        longTexts();
        Due.end();
    }

    /** The WRONG word, or NONE when the text is a rule. */
    private static int wrongWord(String text) {
        int answer = Due.told(new PinKindChecks(), text);
        return answer == 7 ? NONE : -1 - answer;
    }

    private static void wrong(String text, int word) {
        Due.is("the wrong word of '" + text + "'", wrongWord(text), word);
    }

    private static void right(String text) {
        wrong(text, NONE);
    }

    /** Whether a condition about a lone part with fields 0 .. 7 holds. */
    private static void holds(String condition, boolean want) {
        PinKindChecks x = new PinKindChecks();
        x.part(0);
        for (int field = 0; field < 8; field++) {
            x.field(0, field, field);
        }
        Due.is("rule() of " + condition, Due.told(x, "part warn " + condition), 7);
        Due.is("'" + condition + "' holds", x.run() == 1, want);
    }

    private static void subjectsAndWeights() {
        PinKindChecks x = new PinKindChecks();
        x.part(0);
        x.net(0, 0);
        x.pin(0, NONE, 9);
        Due.is("a rule of parts", Due.told(x, "part warn 1 = 1"), 7);
        Due.is("a rule of nets", Due.told(x, "net error 1 = 1"), 8);
        Due.is("a rule of pins", Due.told(x, "pin warn 1 = 1"), 9);
        Due.is("run()", x.run(), 3);
        Due.remark(x, 0, 7, 0, 0, 1, 1);
        Due.remark(x, 1, 8, 1, 0, 2, 1);
        Due.remark(x, 2, 9, 2, 0, 1, 1);
    }

    private static void wrongWords() {
        wrong("parts warn 1 = 1", 0);
        wrong("Part warn 1 = 1", 0);
        wrong("par warn 1 = 1", 0);
        wrong("warn part 1 = 1", 0);
        wrong("1", 0);
        wrong("part 1 = 1", 1);
        wrong("part warning 1 = 1", 1);
        wrong("part warn warn 1 = 1", 2);
        wrong("part warn and 1 = 1", 2);
        wrong("part warn ) 1 = 1", 2);
        wrong("part warn - 1 = 1", 2);
        wrong("part warn = 1", 2);
        wrong("part warn 1=1", 2);
        wrong("part warn (1 = 1 )", 2);
        wrong("part warn not ) 1", 3);
        wrong("part warn 1 and 1 = 1", 3);
        wrong("part warn 1 or", 3);
        wrong("part warn 1 )", 3);
        wrong("part warn 1 1", 3);
        wrong("part warn 1 == 1", 3);
        wrong("part warn 1 => 1", 3);
        wrong("part warn 1 =< 1", 3);
        wrong("part warn 1 <> 1", 3);
        wrong("part warn 1 / 1", 3);
        wrong("part warn 1 ( 1", 3);
        wrong("part warn 1 not = 1", 3);
        wrong("part warn 1 = not 1", 4);
        wrong("part warn 1 = ( 1 )", 4);
        wrong("part warn 1 + + 1 = 1", 4);
        wrong("part warn 1 + ( 1 ) = 1", 4);
        wrong("part warn 1 + not 1", 4);
        wrong("part warn 1 = 1 = 1", 5);
        wrong("part warn 1 = 1 )", 5);
        wrong("part warn 1 = 1 2", 5);
        wrong("part warn 1 = 1 not", 5);
        wrong("part warn 1 = 1 ( 1 = 1 )", 5);
        wrong("part warn 1 = 1 and and", 6);
        wrong("part warn ( 1 )", 4);
        wrong("part warn ( 1 + 1 ) = 2", 6);
        wrong("part warn ( 1 = 1 ) = 1", 7);
        wrong("part warn ( 1 = 1 ) + 1", 7);
        wrong("part warn ( 1 = 1 ) )", 7);
        wrong("part warn ( 1 = 1 ) not", 7);
        wrong("part warn ( 1 = 1 ) 1", 7);
        wrong("part warn ( 1 = 1 ) and ( )", 9);
        wrong("part warn ( )", 3);
        wrong("part warn 1234567890 = 1", 2);
        wrong("part warn 0000000000 = 1", 2);
        wrong("part warn 12a = 1", 2);
        wrong("part warn a = 1", 2);
        wrong("part warn f8 = 1", 2);
        wrong("part warn f = 1", 2);
        wrong("part warn f00 = 1", 2);
        wrong("part warn F0 = 1", 2);
        wrong("part warn g0 = 1", 2);
        wrong("part warn any4 = 1", 2);
        wrong("part warn any = 1", 3);
        wrong("part warn any 10 = 1", 3);
        wrong("part warn any f0 = 1", 3);
        wrong("part warn any any 1 = 1", 3);
        wrong("part warn any 1 1 = 1", 4);
        wrong("part warn not any = 1", 4);
    }

    private static void endsTooSoon() {
        wrong("", 0);
        wrong("   ", 0);
        wrong("part", 1);
        wrong("part warn", 2);
        wrong("part warn not", 3);
        wrong("part warn (", 3);
        wrong("part warn any", 3);
        wrong("part warn 1", 3);
        wrong("part warn any 1", 4);
        wrong("part warn 1 =", 4);
        wrong("part warn 1 +", 4);
        wrong("part warn 1 = 1 +", 6);
        wrong("part warn 1 = 1 and", 6);
        wrong("part warn 1 = 1 or not", 7);
        wrong("part warn ( 1 = 1", 6);
        wrong("part warn ( ( 1 = 1 )", 8);
        right("part warn ( ( 1 = 1 ) )");
        right("part warn 1 = 1");
        right("part warn 999999999 = 000000000");
        right("part warn not not ( not 1 = 1 )");
    }

    private static void wordsOfSubjects() {
        String[] words = {"f0", "f7", "pins", "kind", "name", "sheet", "any 0", "any 9", "0"};
        String[] subjects = {"part", "net", "pin"};
        String[] known = {"111001111", "001011111", "110111001"};
        for (int s = 0; s < subjects.length; s++) {
            for (int w = 0; w < words.length; w++) {
                int want = known[s].charAt(w) == '1' ? NONE : 2;
                wrong(subjects[s] + " error " + words[w] + " = 1", want);
                int behind = want == NONE ? NONE : 6;
                wrong(subjects[s] + " error 1 = 1 + " + words[w], behind);
            }
        }
    }

    private static void append(StringBuilder text, String word, int times) {
        for (int i = 0; i < times; i++) {
            text.append(word);
        }
    }

    private static void brackets() {
        for (int depth = 0; depth <= 10; depth++) {
            StringBuilder text = new StringBuilder("net warn ");
            append(text, "( ", depth);
            text.append("1 = 1");
            append(text, " )", depth);
            wrong(text.toString(), depth <= 8 ? NONE : 10);
        }
        StringBuilder sideBySide = new StringBuilder("net warn ( 1 = 1 )");
        append(sideBySide, " or ( 1 = 1 )", 10);
        right(sideBySide.toString());
        wrong("net warn ( ( ( ( ( ( ( ( 1 = 1 ) and ( not ( 1 = 1", 17);
        wrong("net warn ( ( ( ( ( ( ( ( 1 = 1 ) and ( 1 = 1", 19);
    }

    private static void spaces() {
        right("  part   warn 1  = 1   ");
        wrong("  part   warn  x", 2);
        wrong(" ~", 0);
    }

    private static void signs() {
        String[] signs = {"=", "#", "<", ">", "<=", ">="};
        boolean[][] want = {
            {false, true, true, false, true, false},
            {true, false, false, false, true, true},
            {false, true, false, true, false, true},
        };
        for (int left = 1; left <= 3; left++) {
            for (int s = 0; s < signs.length; s++) {
                holds("f" + left + " " + signs[s] + " 2", want[left - 1][s]);
            }
        }
        holds("0 - 1 < 1", true);
        holds("0 - 1 > 1", false);
        holds("0 - 1 <= 0", true);
        holds("0 - 1 >= 0", false);
    }

    private static void strengths() {
        holds("1 = 1 or 1 = 1 and 1 = 2", true);
        holds("1 = 2 and 1 = 1 or 1 = 1", true);
        holds("( 1 = 1 or 1 = 1 ) and 1 = 2", false);
        holds("1 = 2 and ( 1 = 1 or 1 = 1 )", false);
        holds("not 1 = 2 and 1 = 2", false);
        holds("not ( 1 = 2 and 1 = 2 )", true);
        holds("not 1 = 1 or 1 = 1", true);
        holds("not ( 1 = 1 or 1 = 1 )", false);
        holds("not not 1 = 1", true);
        holds("not not not 1 = 1", false);
        holds("not f0 + 1 = 0", true);
        holds("1 + 2 * 3 = 7", true);
        holds("2 * 3 + 1 = 7", true);
        holds("1 + 2 * 3 * 4 - 5 * 2 = 15", true);
        holds("10 - 3 - 2 = 5", true);
        holds("10 - 3 + 2 = 9", true);
        holds("9 = 10 - 3 + 2", true);
        holds("f7 - f1 * f2 = f5", true);
        holds("1 = 2 or 1 = 3 or 1 = 1", true);
        holds("1 = 1 and 2 = 2 and 3 = 4", false);
    }

    private static void wrapping() {
        PinKindChecks x = new PinKindChecks();
        x.part(0);
        x.field(0, 0, Long.MAX_VALUE);
        x.field(0, 1, Long.MIN_VALUE);
        x.field(0, 2, 4_294_967_296L);
        Due.told(x, "part warn f0 + 1 = f1");
        Due.told(x, "part warn f1 - 1 = f0");
        Due.told(x, "part warn f2 * f2 = 0");
        Due.told(x, "part warn f0 * 2 = 0 - 2");
        Due.told(x, "part warn f1 < f0");
        Due.told(x, "part warn f1 - f0 = 1");
        Due.is("run() with wrapping", x.run(), 6);
        x.field(0, 3, 999999999L * 999999999L * 999999999L);
        Due.is("a product of numbers", Due.told(x, "part warn 999999999 * 999999999 * 999999999 = f3"), 13);
        Due.is("run() with a wrapped product", x.run(), 7);
    }

    private static void values() {
        PinKindChecks x = new PinKindChecks();
        x.part(3);
        x.part(5);
        x.net(4, 77);
        x.net(0, 999);
        x.field(0, 6, -9);
        x.pin(0, 0, 2);
        x.pin(0, 1, 2);
        x.pin(0, NONE, 9);
        x.pin(1, 0, 8);
        for (int rule = 0; rule < 7; rule++) {
            x.off(rule, true);
        }
        String[] rules = {
            "part warn pins = 3 and any 2 = 2 and any 9 = 1 and any 8 = 0",
            "part warn sheet = 5 and f6 = 0 and pins = 1",
            "net warn pins = 2 and any 2 = 1 and any 8 = 1 and any 9 = 0",
            "net warn name = 999 and sheet = 0",
            "pin warn kind = 9 and name = 0 - 1 and sheet = 3",
            "pin warn f6 = 0 - 9 and name = 77",
            "pin warn sheet = 5 and kind = 8 and f6 = 0 and name = 77",
        };
        int[][] things = {{0, 0}, {0, 1}, {1, 0}, {1, 1}, {2, 2}, {2, 0}, {2, 3}};
        for (int i = 0; i < rules.length; i++) {
            Due.is(rules[i], Due.told(x, rules[i]), 7 + i);
            for (int rule = 7; rule < 7 + i; rule++) {
                x.off(rule, true);
            }
            Due.is("run() of " + rules[i], x.run(), 1);
            Due.remark(x, 0, 7 + i, things[i][0], things[i][1], 1, 1);
        }
        x.off(9, false);
        x.join(2, 0);
        x.off(13, true);
        Due.is("run() after a pin has come", x.run(), 0);
        x.join(2, NONE);
        Due.is("run() after it has gone", x.run(), 1);
    }

    private static void longTexts() {
        StringBuilder nots = new StringBuilder("net warn ");
        append(nots, "not ", 36);
        nots.append("1 = 1");
        right(nots.toString());
        StringBuilder sum = new StringBuilder("net warn 0");
        append(sum, " + 1", 36);
        sum.append(" = 36");
        PinKindChecks x = new PinKindChecks();
        x.net(0, 0);
        Due.is("a long sum", Due.told(x, sum.toString()), 7);
        Due.is("run() of a long sum", x.run(), 1);
        StringBuilder ones = new StringBuilder();
        append(ones, "1 ", 80);
        wrong(ones.toString(), 0);
        StringBuilder deep = new StringBuilder("net warn ");
        append(deep, "1 = 2 or not ( ", 8);
        deep.append("1 = 1");
        append(deep, " )", 6);
        wrong(deep.toString(), 2 + 8 * 6 + 3 + 6);
    }
}
