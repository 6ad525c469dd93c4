/** The sentences of 'Terms' that name a boundary case: a test of its own for each. */
public final class TermsBoundaryTest {
    private static final int NONE = PinKindChecks.NONE;

    public static void main(String[] args) {
        things();
        table();
        rulesOfPins();
        rulesOfNets();
        toldRules();
        words();
        terms();
        arithmetic();
        brackets();
        wrongWord();
        order();
        waived();
        firstAndClosed();
        Due.end();
    }

    /** An object whose built-in rules are all off but for one (none: NONE). */
    private static PinKindChecks only(int rule) {
        PinKindChecks x = new PinKindChecks();
        for (int other = 0; other < 7; other++) {
            x.off(other, other != rule);
        }
        return x;
    }

    /** A part and nets on sheet 0, with names that rise from 0. */
    private static PinKindChecks onlyWith(int rule, int nets) {
        PinKindChecks x = only(rule);
        x.part(0);
        for (int i = 0; i < nets; i++) {
            x.net(0, i);
        }
        return x;
    }

    /** All remarks of the next run, each by its rule, kind of thing, thing and weight. */
    private static void remarks(PinKindChecks x, int[]... want) {
        Due.is("run()", x.run(), want.length);
        for (int k = 0; k < want.length; k++) {
            Due.remark(x, k, want[k]);
        }
        Due.remarks(x, want.length);
    }

    private static int[] about(int... rule) {
        return rule;
    }

    private static void things() {
        Due.sentence("each kind numbered from 0", () -> {
            PinKindChecks x = new PinKindChecks();
            for (int i = 0; i < 3; i++) {
                Due.is("part " + i, x.part(3), i);
                Due.is("net " + i, x.net(3, 0), i);
                Due.is("pin " + i, x.pin(i, i, 0), i);
            }
        });
        Due.sentence("at most 40, 40 and 160", () -> {
            PinKindChecks x = new PinKindChecks();
            for (int i = 0; i < 41; i++) {
                Due.is("part " + i, x.part(i % 16), i < 40 ? i : NONE);
                Due.is("net " + i, x.net(i % 16, 0), i < 40 ? i : NONE);
            }
            for (int i = 0; i < 161; i++) {
                Due.is("pin " + i, x.pin(i % 40, i % 40, 9), i < 160 ? i : NONE);
            }
            Due.told(x, "part warn 1 = 1");
            Due.told(x, "net warn 1 = 1");
            Due.told(x, "pin warn 1 = 1");
            x.off(5, true);
            Due.is("run() of all things", x.run(), 240);
        });
        Due.sentence("each on a SHEET 0 .. 15", () -> {
            PinKindChecks x = only(NONE);
            Due.is("part(15)", x.part(15), 0);
            Due.is("part(0)", x.part(0), 1);
            Due.is("net(15, 0)", x.net(15, 0), 0);
            Due.is("net(0, 0)", x.net(0, 0), 1);
            Due.told(x, "part warn sheet = 15");
            Due.told(x, "net warn sheet = 15");
            remarks(x, about(7, 0, 0), about(8, 1, 0));
        });
        Due.sentence("(a pin on its part's)", () -> {
            PinKindChecks x = only(NONE);
            x.part(15);
            x.part(0);
            x.net(0, 0);
            x.net(15, 0);
            x.pin(0, 0, 0);
            x.pin(1, 1, 0);
            Due.told(x, "pin warn sheet = 15");
            Due.told(x, "pin warn sheet < 16");
            remarks(x, about(8, 2, 1), about(7, 2, 0), about(8, 2, 0));
        });
        Due.sentence("A part has FIELDS 0 .. 7 (at first 0)", () -> {
            PinKindChecks x = onlyWith(NONE, 0);
            Due.told(x, "part warn f0 = 0 and f1 = 0 and f2 = 0 and f3 = 0");
            Due.told(x, "part warn f4 = 0 and f5 = 0 and f6 = 0 and f7 = 0");
            remarks(x, about(7, 0, 0), about(8, 0, 0));
            x.field(0, 0, 1);
            remarks(x, about(8, 0, 0));
            x.field(0, 7, 1);
            remarks(x);
        });
        Due.sentence("a net a NAME 0 .. 999", () -> {
            PinKindChecks x = only(NONE);
            Due.is("name 0", x.net(0, 0), 0);
            Due.is("name 999", x.net(0, 999), 1);
            Due.told(x, "net warn name = 0");
            Due.told(x, "net warn name = 999");
            remarks(x, about(7, 1, 0), about(8, 1, 1));
        });
        Due.sentence("(at most 100 of all nets)", () -> {
            PinKindChecks x = onlyWith(6, 40);
            for (int i = 0; i < 100; i++) {
                Due.is("end " + i, x.end(i % 39, 0, 0), true);
            }
            Due.is("end 100", x.end(39, 1, 1), false);
            remarks(x);
        });
        Due.sentence("a KIND 0 .. 9, and a net or none", () -> {
            PinKindChecks x = onlyWith(NONE, 1);
            Due.is("kind 0 on a net", x.pin(0, 0, 0), 0);
            Due.is("kind 9 on none", x.pin(0, NONE, 9), 1);
            Due.told(x, "pin warn kind = 0 and name = 0");
            Due.told(x, "pin warn kind = 9 and name < 0");
            remarks(x, about(7, 2, 0), about(8, 2, 1));
        });
    }

    private static void table() {
        Due.sentence("for each two kinds, either way round", () -> {
            PinKindChecks x = new PinKindChecks();
            for (int a = 0; a < 10; a++) {
                for (int b = a; b < 10; b++) {
                    Due.is("table(" + a + ", " + b + ")", x.table(a, b, 1 + (a + b) % 2), true);
                }
            }
            for (int a = 0; a < 10; a++) {
                for (int b = a; b < 10; b++) {
                    Due.is("table(" + b + ", " + a + ")", x.table(b, a, 1 + (a + b) % 2), false);
                }
            }
        });
        Due.sentence("a VERDICT 0 .. 2", () -> {
            PinKindChecks x = onlyWith(1, 1);
            x.pin(0, 0, 0);
            x.pin(0, 0, 9);
            remarks(x);
            x.table(9, 0, 2);
            remarks(x, about(1, 2, 1, 2));
            x.table(0, 9, 1);
            remarks(x, about(1, 2, 1, 1));
            x.table(0, 9, 0);
            remarks(x);
        });
    }

    private static void rulesOfPins() {
        Due.sentence("0: a pin without a net, of a kind other than 9: 2", () -> {
            PinKindChecks x = onlyWith(0, 1);
            x.pin(0, NONE, 9);
            x.pin(0, NONE, 8);
            x.pin(0, NONE, 0);
            x.pin(0, 0, 0);
            x.pin(0, 0, 9);
            remarks(x, about(0, 2, 1, 2), about(0, 2, 2, 2));
            x.join(1, 0);
            x.join(3, NONE);
            x.join(4, NONE);
            remarks(x, about(0, 2, 2, 2), about(0, 2, 3, 2));
        });
        Due.sentence("1: a pin with a lower number on its net", () -> {
            PinKindChecks x = onlyWith(1, 2);
            x.table(2, 2, 1);
            x.pin(0, NONE, 2);
            x.pin(0, NONE, 2);
            x.pin(0, 1, 2);
            x.pin(0, 0, 2);
            remarks(x);
            x.join(1, 1);
            remarks(x, about(1, 2, 2, 1));
            x.join(0, 1);
            remarks(x, about(1, 2, 1, 1), about(1, 2, 2, 1));
            x.join(1, NONE);
            remarks(x, about(1, 2, 2, 1));
            x.join(0, NONE);
            remarks(x);
        });
        Due.sentence("1: the greatest of these", () -> {
            PinKindChecks x = onlyWith(1, 1);
            x.table(0, 5, 1);
            x.table(9, 5, 2);
            x.pin(0, 0, 0);
            x.pin(0, 0, 5);
            x.pin(0, 0, 9);
            x.pin(0, 0, 5);
            x.pin(0, 0, 0);
            x.pin(0, 0, 7);
            remarks(x, about(1, 2, 1, 1), about(1, 2, 2, 2), about(1, 2, 3, 2), about(1, 2, 4, 1));
        });
        Due.sentence("1: is above 0, of the first pin and the last", () -> {
            PinKindChecks x = onlyWith(1, 1);
            x.table(3, 6, 1);
            x.pin(0, 0, 3);
            for (int pin = 1; pin < 159; pin++) {
                x.pin(0, 0, 8);
            }
            x.pin(0, 0, 6);
            remarks(x, about(1, 2, 159, 1));
        });
    }

    /** A net with pins of these kinds: one remark with a weight, or none (0). */
    private static void netOf(int rule, int weight, int... kinds) {
        PinKindChecks x = onlyWith(rule, 2);
        for (int kind : kinds) {
            x.pin(0, 1, kind);
        }
        if (weight == 0) {
            remarks(x);
        } else {
            remarks(x, about(rule, 1, 1, weight));
        }
    }

    private static void rulesOfNets() {
        Due.sentence("2: a net with two or more pins of kind 1: 2", () -> {
            netOf(2, 0);
            netOf(2, 0, 1);
            netOf(2, 0, 1, 0, 2, 3, 4, 5, 6, 7, 8, 9);
            netOf(2, 0, 2, 2);
            netOf(2, 2, 1, 1);
            netOf(2, 2, 1, 1, 1);
            netOf(2, 2, 1, 0, 1);
        });
        Due.sentence("3: a net with a pin of kind 3 and none of kind 4: 2", () -> {
            netOf(3, 0);
            netOf(3, 0, 4);
            netOf(3, 0, 2, 5);
            netOf(3, 2, 3);
            netOf(3, 2, 3, 3, 5, 2);
            netOf(3, 0, 3, 4);
            netOf(3, 0, 4, 3, 3);
        });
        Due.sentence("4: a net with just one pin: 1", () -> {
            netOf(4, 0);
            netOf(4, 1, 0);
            netOf(4, 1, 9);
            netOf(4, 0, 0, 0);
            netOf(4, 0, 1, 2, 3);
        });
        Due.sentence("2, 3, 4: pins that come and go", () -> {
            PinKindChecks x = new PinKindChecks();
            x.part(0);
            x.net(0, 0);
            x.net(0, 1);
            x.pin(0, 0, 1);
            x.pin(0, 0, 1);
            x.pin(0, 0, 3);
            x.pin(0, 0, 4);
            remarks(x, about(2, 1, 0, 2));
            x.join(1, 1);
            x.join(3, 1);
            remarks(x, about(3, 1, 0, 2));
            x.join(2, 1);
            remarks(x, about(4, 1, 0, 1));
            x.join(0, 1);
            remarks(x, about(2, 1, 1, 2));
        });
        Due.sentence("5: a net whose name a net with a lower number has: 2", () -> {
            PinKindChecks x = only(5);
            int[] names = {0, 999, 1, 999, 0, 998, 0};
            for (int i = 0; i < names.length; i++) {
                x.net(15 - i, names[i]);
            }
            remarks(x, about(5, 1, 6, 2), about(5, 1, 4, 2), about(5, 1, 3, 2));
        });
        Due.sentence("5: the first net and the last", () -> {
            PinKindChecks x = onlyWith(5, 39);
            x.net(0, 0);
            remarks(x, about(5, 1, 39, 2));
        });
        ends();
    }

    private static void ends() {
        Due.sentence("6: a net with an end of which a coordinate is no multiple of 100: 1", () -> {
            for (long bad : new long[] {1, -1, 50, 99, 101, -99, -101, 150, 10, Long.MAX_VALUE, Long.MIN_VALUE,
                1L << 32}) {
                endOf(bad, 0, 1);
                endOf(0, bad, 1);
                endOf(bad, bad, 1);
            }
            long far = 9_223_372_036_854_775_800L;
            for (long good : new long[] {0, 100, -100, 200, -1000, far, -far, 100L << 32}) {
                endOf(good, 0, 0);
                endOf(-100, good, 0);
            }
            endOf(50, 50, 1);
            endOf(99, 1, 1);
        });
        Due.sentence("6: an end among others", () -> {
            PinKindChecks x = onlyWith(6, 3);
            x.end(0, 0, 0);
            x.end(2, 0, 0);
            x.end(2, 0, 1);
            x.end(2, 1, 0);
            x.end(2, 0, 0);
            remarks(x, about(6, 1, 2, 1));
        });
    }

    private static void endOf(long x, long y, int weight) {
        PinKindChecks checks = onlyWith(6, 2);
        checks.end(1, x, y);
        Due.is("an end at " + x + ", " + y, checks.run(), weight);
        if (weight > 0) {
            Due.remark(checks, 0, 6, 1, 1, weight);
        }
    }

    private static void toldRules() {
        Due.sentence("Rules from 7 on (at most 20) are told", () -> {
            PinKindChecks x = onlyWith(NONE, 0);
            for (int i = 0; i < 20; i++) {
                Due.is("rule " + (7 + i), Due.told(x, i % 2 == 0 ? "part warn 1 = 1" : "part error 1 = 1"), 7 + i);
            }
            Due.letters(x, "part warn 1 = 1");
            Due.illegalState("rule() of the 21st", x::rule);
            Due.is("run() of all told rules", x.run(), 20);
            Due.remark(x, 0, 7, 0, 0, 1);
            Due.remark(x, 19, 26, 0, 0, 2);
        });
        Due.sentence("a remark about each thing for which the CONDITION holds", () -> {
            PinKindChecks x = onlyWith(NONE, 2);
            x.part(0);
            x.pin(0, 0, 0);
            x.pin(0, 0, 1);
            x.pin(0, 0, 2);
            Due.told(x, "pin warn kind # 1");
            Due.told(x, "net error pins = 0");
            Due.told(x, "part error pins = 0");
            Due.told(x, "part warn 1 = 2");
            remarks(x, about(9, 0, 1, 2), about(8, 1, 1, 2), about(7, 2, 0, 1), about(7, 2, 2, 1));
        });
        Due.sentence("(warn 1, error 2)", () -> {
            PinKindChecks x = onlyWith(NONE, 0);
            Due.told(x, "part warn 1 = 1");
            Due.told(x, "part error 1 = 1");
            remarks(x, about(7, 0, 0, 1), about(8, 0, 0, 2));
        });
    }

    /** The WRONG word of a text, or NONE when it is a rule. */
    private static void wrong(String text, int word) {
        int answer = Due.told(new PinKindChecks(), text);
        Due.is("the wrong word of '" + text + "'", answer == 7 ? NONE : -1 - answer, word);
    }

    private static void right(String text) {
        wrong(text, NONE);
    }

    /** Whether a condition holds for a lone part with fields 0, 1, 2, the greatest and the least number. */
    private static void holds(String condition, boolean want) {
        PinKindChecks x = new PinKindChecks();
        x.part(0);
        x.field(0, 1, 1);
        x.field(0, 2, 2);
        x.field(0, 3, Long.MAX_VALUE);
        x.field(0, 4, Long.MIN_VALUE);
        x.field(0, 5, 1L << 32);
        Due.is("rule() of '" + condition + "'", Due.told(x, "part warn " + condition), 7);
        Due.is("'" + condition + "' holds", x.run(), want ? 1 : 0);
    }

    private static void words() {
        Due.sentence("WORDS with spaces between", () -> {
            right("part warn 1 = 1");
            right("part  warn   1 =    1");
            right(" part warn 1 = 1");
            right("part warn 1 = 1 ");
            wrong("partwarn 1 = 1", 0);
            wrong("part warn1 = 1", 1);
            wrong("part warn 1= 1", 2);
            wrong("part warn 1 =1", 3);
            wrong("part warn (1 = 1 )", 2);
            wrong("part warn ( 1 = 1)", 5);
            wrong("part,warn 1 = 1", 0);
        });
        Due.sentence("SUBJECT (part, net, pin), WEIGHT (warn 1, error 2)", () -> {
            wrong("PART warn 1 = 1", 0);
            wrong("nets warn 1 = 1", 0);
            wrong("pi warn 1 = 1", 0);
            wrong("pins warn 1 = 1", 0);
            wrong("pin Warn 1 = 1", 1);
            wrong("pin err 1 = 1", 1);
            wrong("pin errors 1 = 1", 1);
            wrong("pin 1 1 = 1", 1);
        });
        Due.sentence("the SIGN one of = # < > <= >=", () -> {
            String[] signs = {"=", "#", "<", ">", "<=", ">="};
            String[] want = {"010", "101", "100", "001", "110", "011"};
            for (int i = 0; i < signs.length; i++) {
                holds("f0 " + signs[i] + " f1", want[i].charAt(0) == '1');
                holds("f1 " + signs[i] + " f1", want[i].charAt(1) == '1');
                holds("f2 " + signs[i] + " f1", want[i].charAt(2) == '1');
                holds("f4 " + signs[i] + " f3", want[i].charAt(0) == '1');
                holds("f3 " + signs[i] + " f4", want[i].charAt(2) == '1');
            }
            for (String other : new String[] {"==", "!=", "<>", "=<", "=>", "##", "<<", "!", "~"}) {
                wrong("part warn 1 " + other + " 1", 3);
            }
        });
        Due.sentence("ANDS with or between; NOTS with and between; not NOTS", () -> {
            holds("1 = 1 or 1 = 1 and 1 = 2", true);
            holds("1 = 2 and 1 = 2 or 1 = 1", true);
            holds("1 = 2 or 1 = 1 and 1 = 2", false);
            holds("not 1 = 1 or 1 = 1", true);
            holds("not 1 = 2 and 1 = 2", false);
            holds("not not not 1 = 2", true);
            holds("not ( 1 = 2 or 1 = 1 )", false);
        });
    }

    private static void terms() {
        Due.sentence("one to nine digits", () -> {
            holds("0 = f0", true);
            holds("9 = f2 * 4 + 1", true);
            holds("999999999 = 999999998 + 1", true);
            holds("000000002 = f2", true);
            holds("123456789 = 12345 * 10000 + 6789", true);
            wrong("part warn 1000000000 = 1", 2);
            wrong("part warn 0000000001 = 1", 2);
            wrong("part warn 1 = 4294967297", 4);
            wrong("part warn 18446744073709551617 = 1", 2);
            wrong("part warn -1 = 1", 2);
            wrong("part warn 1a = 1", 2);
            wrong("part warn 1/ = 1", 2);
            wrong("part warn 1: = 1", 2);
        });
        Due.sentence("f0 to f7 (of a part, or of a pin's part)", () -> {
            for (int field = 0; field < 8; field++) {
                fieldOf(field);
            }
            wrong("part warn f8 = 1", 2);
            wrong("pin warn f9 = 1", 2);
            wrong("part warn f/ = 1", 2);
            wrong("part warn f = 1", 2);
            wrong("part warn f07 = 1", 2);
            wrong("part warn f 0 = 1", 2);
            wrong("part warn 0f = 1", 2);
        });
        Due.sentence("pins (how many a part or net has); any followed by one digit", TermsBoundaryTest::pinsAndAny);
        Due.sentence("any followed by one digit", () -> {
            right("part warn any 0 = 1");
            right("net warn any 9 = 1");
            wrong("part warn any 10 = 1", 3);
            wrong("part warn any 00 = 1", 3);
            wrong("part warn any x = 1", 3);
            wrong("part warn any = 1", 3);
            wrong("part warn any / = 1", 3);
            wrong("part warn any : = 1", 3);
            wrong("part warn any", 3);
        });
        Due.sentence("name (of a net, or a pin's; -1 when it has no net)", () -> {
            PinKindChecks x = only(NONE);
            x.part(0);
            x.net(0, 999);
            x.net(0, 0);
            x.pin(0, 0, 0);
            x.pin(0, 1, 0);
            x.pin(0, NONE, 0);
            Due.told(x, "pin warn name = 999");
            Due.told(x, "pin warn name = 0");
            Due.told(x, "pin warn name + 1 = 0");
            remarks(x, about(7, 2, 0), about(8, 2, 1), about(9, 2, 2));
            x.join(0, NONE);
            x.join(2, 0);
            remarks(x, about(9, 2, 0), about(8, 2, 1), about(7, 2, 2));
        });
        Due.sentence("What has no place with the subject is no word there", () -> {
            for (String word : new String[] {"kind", "name"}) {
                wrong("part warn " + word + " = 1", 2);
                wrong("part warn 1 = 1 * " + word, 6);
            }
            for (String word : new String[] {"kind", "f0", "f7"}) {
                wrong("net warn " + word + " = 1", 2);
                wrong("net warn 1 = 1 * " + word, 6);
            }
            for (String word : new String[] {"pins", "any 0", "any 9"}) {
                wrong("pin warn " + word + " = 1", 2);
                wrong("pin warn 1 = 1 * " + word, 6);
            }
            right("part warn f0 + pins + sheet + any 0 + 1 = 1");
            right("net warn pins + name + sheet + any 0 + 1 = 1");
            right("pin warn f0 + kind + name + sheet + 1 = 1");
        });
    }

    private static void fieldOf(int field) {
        PinKindChecks x = only(NONE);
        x.part(0);
        x.part(0);
        x.pin(0, NONE, 0);
        x.pin(1, NONE, 0);
        x.field(1, field, Long.MIN_VALUE + field);
        Due.told(x, "part warn f" + field + " < 0");
        Due.told(x, "pin warn f" + field + " < 0");
        remarks(x, about(7, 0, 1), about(8, 2, 1));
    }

    private static void pinsAndAny() {
        PinKindChecks x = only(NONE);
        x.part(0);
        x.part(0);
        x.net(0, 0);
        x.net(0, 1);
        x.pin(1, 1, 0);
        x.pin(1, 1, 9);
        x.pin(1, NONE, 9);
        Due.told(x, "part warn pins = 3 and any 9 = 2 and any 0 = 1 and any 5 = 0");
        Due.told(x, "part warn pins = 0 and any 9 = 0 and any 0 = 0");
        Due.told(x, "net warn pins = 2 and any 9 = 1 and any 0 = 1 and any 5 = 0");
        Due.told(x, "net warn pins = 0 and any 9 = 0 and any 0 = 0");
        remarks(x, about(8, 0, 0), about(7, 0, 1), about(10, 1, 0), about(9, 1, 1));
        x.join(0, NONE);
        x.join(1, NONE);
        remarks(x, about(8, 0, 0), about(7, 0, 1), about(10, 1, 0), about(10, 1, 1));
    }

    private static void arithmetic() {
        Due.sentence("PRODUCTS with + or - between, TERMS with * between, from left to right", () -> {
            holds("10 - 3 - 2 = 5", true);
            holds("10 - 3 + 2 = 9", true);
            holds("1 + 2 * 3 = 7", true);
            holds("2 * 3 + 1 = 7", true);
            holds("10 - 2 * 3 - 1 = 3", true);
            holds("3 = 10 - 2 * 3 - 1", true);
            holds("2 * 3 * 4 - 2 * 2 = 20", true);
            holds("0 - 1 < 0", true);
        });
        Due.sentence("all wrapping to 64 bits", () -> {
            holds("f3 + 1 = f4", true);
            holds("f3 + 1 < 0", true);
            holds("f4 - 1 = f3", true);
            holds("f4 - 1 > 0", true);
            holds("0 - f4 = f4", true);
            holds("f3 * 2 = 0 - 2", true);
            holds("f4 * 2 = 0", true);
            holds("f5 * f5 = 0", true);
            holds("f3 + f3 - f3 = f3", true);
            holds("f4 + f4 = 0", true);
            holds("f5 * 2 = 0", false);
            holds("f5 = 0", false);
            holds("999999999 * 999999999 > 0", true);
            holds("999999999 * 999999999 * 999999999 < 0", 999999999L * 999999999L * 999999999L < 0);
            holds("f3 < f4", false);
            holds("f3 - f4 < 0", true);
        });
    }

    private static String nested(int brackets, String before, String after) {
        return "net warn " + "( ".repeat(brackets) + before + " )".repeat(brackets) + after;
    }

    private static void brackets() {
        Due.sentence("At most 8 brackets are open (the next ( is WRONG)", () -> {
            right(nested(7, "1 = 1", ""));
            right(nested(8, "1 = 1", ""));
            wrong(nested(9, "1 = 1", ""), 10);
            wrong(nested(12, "1 = 1", ""), 10);
            wrong("net warn " + "( ".repeat(8), 10);
            wrong("net warn " + "( ".repeat(9), 10);
        });
        Due.sentence("At most 8 are open: those that are closed are not", () -> {
            right(nested(8, "1 = 1 ) and ( 1 = 1", ""));
            wrong(nested(8, "1 = 1 ) and ( ( 1 = 1", ""), 16);
            right(nested(8, "1 = 1", " or ( ( 1 = 1 ) )"));
            right(nested(8, "not not 1 = 1", " and not ( 1 = 1 )"));
            right("net warn ( 1 = 1 )" + " or ( 1 = 1 )".repeat(10));
        });
        Due.sentence("At most 8: also behind not, and, or", () -> {
            wrong("net warn " + "not ( ".repeat(9), 19);
            wrong("net warn " + "1 = 1 or ( ".repeat(9), 46);
            wrong("net warn " + "1 = 1 and ( ".repeat(9), 46);
            wrong("net warn ( ( ( ( ( ( ( ( not ( 1 = 1", 11);
        });
        Due.sentence("( CONDITION ): deep brackets hold what their inside holds", () -> {
            PinKindChecks x = onlyWith(NONE, 1);
            Due.told(x, nested(8, "1 = 1", ""));
            Due.told(x, nested(8, "1 = 2", ""));
            Due.told(x, nested(8, "1 = 2 or 1 = 1", " and 1 = 1"));
            Due.told(x, "net warn " + "not ( ".repeat(8) + "1 = 1" + " )".repeat(8));
            Due.told(x, "net warn " + "not ( ".repeat(7) + "1 = 1" + " )".repeat(7));
            remarks(x, about(7, 1, 0), about(9, 1, 0), about(10, 1, 0));
        });
    }

    private static void wrongWord() {
        Due.sentence("the first one with which no such text goes on (numbered from 0)", () -> {
            wrong("x y z", 0);
            wrong("part x y", 1);
            wrong("part warn = =", 2);
            wrong("part warn 1 1 =", 3);
            wrong("part warn 1 and 1", 3);
            wrong("part warn 1 or 1", 3);
            wrong("part warn 1 )", 3);
            wrong("part warn 1 = )", 4);
            wrong("part warn 1 = not 1", 4);
            wrong("part warn 1 = 1 = 1", 5);
            wrong("part warn 1 = 1 < 1", 5);
            wrong("part warn 1 = 1 )", 5);
            wrong("part warn 1 = 1 + 1 + = 1", 8);
            wrong("part warn ( 1 ) = 1", 4);
            wrong("part warn ( 1 = 1 ) = 1", 7);
            wrong("part warn ( 1 = 1 ) + 1 = 1", 7);
            wrong("part warn ( 1 = 1 ) )", 7);
            wrong("part warn ( 1 = 1 ) (", 7);
            wrong("part warn ( )", 3);
            wrong("part warn not )", 3);
            wrong("part warn 1 = 1 not", 5);
            wrong("part warn 1 = 1 and or", 6);
            wrong("part warn 1 = 1 and 1 and", 7);
            wrong("part warn 1 = 1 part", 5);
        });
        Due.sentence("or how many words there are, if they end too soon", () -> {
            String[] words = {"part", "warn", "not", "(", "any", "1", "+", "2", "=", "3"};
            StringBuilder text = new StringBuilder();
            wrong("", 0);
            wrong(" ", 0);
            for (int i = 0; i < words.length; i++) {
                text.append(words[i]).append(' ');
                wrong(text.toString(), i + 1);
            }
            right(text + ")");
            wrong(text + ") or", 12);
            wrong(text + ") and not", 13);
        });
        Due.sentence("how many words there are: as many as 160 characters hold", () -> {
            wrong("net warn " + "not ".repeat(37), 39);
            wrong("net warn 1 = 1" + " + 1".repeat(36) + " +", 78);
            right("net warn 1 = 1" + " + 1".repeat(36));
            wrong("net warn 1" + " * 1".repeat(37), 77);
        });
    }

    private static void order() {
        Due.sentence("by the sheet of their thing", () -> {
            PinKindChecks x = only(NONE);
            for (int i = 0; i < 16; i++) {
                x.part(15 - i);
            }
            Due.told(x, "part warn 1 = 1");
            Due.is("run()", x.run(), 16);
            for (int k = 0; k < 16; k++) {
                Due.remark(x, k, 7, 0, 15 - k);
            }
        });
        Due.sentence("then parts, nets, pins", () -> {
            PinKindChecks x = onlyWith(NONE, 1);
            x.pin(0, 0, 0);
            Due.told(x, "pin warn 1 = 1");
            Due.told(x, "net warn 1 = 1");
            Due.told(x, "part warn 1 = 1");
            remarks(x, about(9, 0, 0), about(8, 1, 0), about(7, 2, 0));
        });
        Due.sentence("by the sheet first: a pin of a lower sheet before a part", () -> {
            PinKindChecks x = only(NONE);
            x.part(1);
            x.part(0);
            x.net(0, 0);
            x.pin(1, NONE, 0);
            x.net(1, 0);
            Due.told(x, "pin warn 1 = 1");
            Due.told(x, "net warn 1 = 1");
            Due.told(x, "part warn 1 = 1");
            remarks(x, about(9, 0, 1), about(8, 1, 0), about(7, 2, 0), about(9, 0, 0), about(8, 1, 1));
        });
        Due.sentence("then its number, then the rule", () -> {
            PinKindChecks x = new PinKindChecks();
            x.part(7);
            Due.told(x, "pin warn 1 = 1");
            Due.told(x, "pin warn 1 = 1");
            for (int pin = 0; pin < 160; pin++) {
                x.pin(0, NONE, 0);
            }
            Due.is("run()", x.run(), 480);
            for (int pin : new int[] {0, 1, 9, 10, 99, 100, 158, 159}) {
                Due.remark(x, 3 * pin, 0, 2, pin, 2);
                Due.remark(x, 3 * pin + 1, 7, 2, pin, 1);
                Due.remark(x, 3 * pin + 2, 8, 2, pin, 1);
            }
        });
        Due.sentence("RUN makes all remarks of rules that are not OFF", () -> {
            PinKindChecks x = new PinKindChecks();
            x.part(0);
            x.net(0, 0);
            x.net(0, 0);
            x.table(1, 1, 1);
            x.pin(0, NONE, 0);
            x.pin(0, 1, 1);
            x.pin(0, 1, 1);
            x.pin(0, 1, 3);
            x.pin(0, 0, 0);
            x.end(1, 1, 1);
            int[][] all = {{4, 1, 0, 1}, {2, 1, 1, 2}, {3, 1, 1, 2}, {5, 1, 1, 2}, {6, 1, 1, 1}, {0, 2, 0, 2},
                {1, 2, 2, 1}};
            remarks(x, all);
            for (int off = 0; off < all.length; off++) {
                x.off(all[off][0], true);
                int[][] others = new int[all.length - 1][];
                System.arraycopy(all, 0, others, 0, off);
                System.arraycopy(all, off + 1, others, off, all.length - 1 - off);
                remarks(x, others);
                Due.closed(x, 0, all[off][0], all[off][1], all[off][2]);
                Due.closedCount(x, 1);
                x.off(all[off][0], false);
                x.run();
            }
        });
    }

    private static void waived() {
        Due.sentence("in this order among the others, but it is not OPEN", () -> {
            PinKindChecks x = onlyWith(0, 0);
            for (int pin = 0; pin < 3; pin++) {
                x.pin(0, NONE, 0);
            }
            x.waive(0, 2, 1, 0);
            Due.is("run()", x.run(), 2);
            Due.remark(x, 0, 0, 2, 0, 2, 1, NONE);
            Due.remark(x, 1, 0, 2, 1, 2, 1, 0);
            Due.remark(x, 2, 0, 2, 2, 2, 1, NONE);
            Due.remarks(x, 3);
        });
        Due.sentence("(a rule and a thing, and a reason)", () -> {
            PinKindChecks x = onlyWith(NONE, 1);
            x.pin(0, NONE, 0);
            for (String subject : new String[] {"part", "net", "pin"}) {
                Due.told(x, subject + " warn 1 = 1");
                Due.told(x, subject + " warn 1 = 1");
            }
            x.waive(7, 0, 0, 70);
            x.waive(10, 1, 0, 100);
            x.waive(11, 2, 0, 110);
            x.waive(8, 1, 0, 80);
            x.waive(12, 0, 0, 120);
            Due.is("run()", x.run(), 3);
            int[] reasons = {70, NONE, NONE, 100, 110, NONE};
            for (int k = 0; k < reasons.length; k++) {
                Due.is("the reason of rule " + (7 + k), x.remark(k, 5), reasons[k]);
            }
        });
    }

    private static void firstAndClosed() {
        Due.sentence("FIRST seen in the VERSION of the run in which it came", () -> {
            PinKindChecks x = onlyWith(0, 0);
            for (int version = 1; version <= 20; version++) {
                x.pin(0, NONE, 0);
                x.run();
                for (int pin = 0; pin < version; pin++) {
                    Due.is("pin " + pin, x.remark(pin, 4), pin + 1);
                }
                x.next();
            }
        });
        Due.sentence("if the run before did not have it", () -> {
            PinKindChecks x = onlyWith(0, 1);
            x.pin(0, NONE, 0);
            x.run();
            x.next();
            x.run();
            Due.is("the run before had it", x.remark(0, 4), 1);
            x.join(0, 0);
            x.run();
            x.join(0, NONE);
            x.next();
            x.run();
            Due.is("the run before did not have it", x.remark(0, 4), 3);
            x.join(0, 0);
            x.join(0, NONE);
            x.next();
            x.run();
            Due.is("gone between two runs", x.remark(0, 4), 3);
        });
        Due.sentence("FIRST seen: another weight or a waiver makes no other remark", () -> {
            PinKindChecks x = onlyWith(1, 1);
            x.table(0, 0, 1);
            x.pin(0, 0, 0);
            x.pin(0, 0, 0);
            x.run();
            x.table(0, 0, 2);
            x.waive(1, 2, 1, 6);
            x.next();
            x.run();
            Due.remark(x, 0, 1, 2, 1, 2, 1, 6);
            Due.closedCount(x, 0);
        });
        Due.sentence("that the run before had, and the latest one has not, is CLOSED", () -> {
            PinKindChecks x = onlyWith(0, 1);
            x.pin(0, NONE, 0);
            x.run();
            x.join(0, 0);
            Due.closedCount(x, 0);
            x.run();
            Due.closed(x, 0, 0, 2, 0, 1);
            Due.closedCount(x, 1);
            x.run();
            Due.closedCount(x, 0);
        });
        Due.sentence("these are in the same order", () -> {
            PinKindChecks x = only(NONE);
            x.part(15);
            x.part(0);
            x.net(0, 0);
            x.net(15, 0);
            x.pin(0, NONE, 0);
            x.pin(1, NONE, 0);
            String[] subjects = {"pin", "net", "part", "pin"};
            for (String subject : subjects) {
                Due.told(x, subject + " warn 1 = 1");
            }
            int[][] want = {{9, 0, 1}, {8, 1, 0}, {7, 2, 1}, {10, 2, 1}, {9, 0, 0}, {8, 1, 1}, {7, 2, 0}, {10, 2, 0}};
            remarks(x, want);
            for (int rule = 7; rule < 11; rule++) {
                x.off(rule, true);
            }
            remarks(x);
            for (int k = 0; k < want.length; k++) {
                Due.closed(x, k, want[k]);
            }
            Due.closedCount(x, want.length);
        });
        Due.sentence("(by where their things are now)", () -> {
            PinKindChecks x = only(0);
            x.part(7);
            x.part(3);
            x.net(15, 0);
            x.net(0, 1);
            for (int pin = 0; pin < 4; pin++) {
                x.pin(pin % 2, NONE, 0);
            }
            remarks(x, about(0, 2, 1), about(0, 2, 3), about(0, 2, 0), about(0, 2, 2));
            x.join(1, 0);
            x.join(2, 1);
            x.join(3, 1);
            remarks(x, about(0, 2, 0));
            Due.closed(x, 0, 0, 2, 1, 1);
            Due.closed(x, 1, 0, 2, 3, 1);
            Due.closed(x, 2, 0, 2, 2, 1);
            Due.closedCount(x, 3);
        });
        Due.sentence("CLOSED: things that came since take no place among them", () -> {
            PinKindChecks x = only(0);
            x.part(5);
            x.pin(0, NONE, 0);
            x.pin(0, NONE, 1);
            x.run();
            x.part(0);
            x.pin(1, NONE, 0);
            x.net(0, 0);
            x.join(0, 0);
            x.join(1, 0);
            remarks(x, about(0, 2, 2));
            Due.closed(x, 0, 0, 2, 0, 1);
            Due.closed(x, 1, 0, 2, 1, 1);
            Due.closedCount(x, 2);
        });
        Due.sentence("CLOSED and FIRST seen side by side", () -> {
            PinKindChecks x = onlyWith(NONE, 0);
            for (int part = 1; part < 40; part++) {
                x.part(0);
            }
            for (int part = 0; part < 40; part++) {
                x.field(part, 0, part % 3);
            }
            Due.told(x, "part warn f0 < 2");
            Due.told(x, "part warn f0 > 0");
            x.off(8, true);
            Due.is("those below 2", x.run(), 27);
            x.off(7, true);
            x.off(8, false);
            x.next();
            Due.is("those above 0", x.run(), 26);
            Due.closedCount(x, 27);
            Due.closed(x, 26, 7, 0, 39, 1);
            Due.remark(x, 25, 8, 0, 38, 1, 2);
            x.off(7, false);
            x.next();
            Due.is("both", x.run(), 53);
            Due.closedCount(x, 0);
            Due.remark(x, 1, 7, 0, 1, 1, 3);
            Due.remark(x, 2, 8, 0, 1, 1, 2);
        });
    }
}
