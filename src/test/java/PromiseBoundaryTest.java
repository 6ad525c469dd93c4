/** The sentences of promises 1 to 18 that name a boundary case, or a refused call: a test of its own for each. */
public final class PromiseBoundaryTest {
    private static final int NONE = PinKindChecks.NONE;
    private static final int LOW = Integer.MIN_VALUE;
    private static final int HIGH = Integer.MAX_VALUE;

    public static void main(String[] args) {
        newObject();
        table();
        part();
        net();
        pin();
        join();
        field();
        end();
        unit();
        rule();
        off();
        run();
        remark();
        closed();
        waive();
        next();
        offRule();
        clear();
        Due.end();
    }

    private static PinKindChecks with(int parts, int nets) {
        PinKindChecks x = new PinKindChecks();
        for (int i = 0; i < parts; i++) {
            x.part(0);
        }
        for (int i = 0; i < nets; i++) {
            x.net(0, i);
        }
        return x;
    }

    /** A part on sheet 0 with pins of kind 0 on no net: each has a remark of rule 0. */
    private static PinKindChecks withLoosePins(int pins) {
        PinKindChecks x = with(1, 0);
        addLoosePins(x, pins);
        return x;
    }

    private static void addLoosePins(PinKindChecks x, int pins) {
        for (int i = 0; i < pins; i++) {
            x.pin(0, NONE, 0);
        }
    }

    private static void verdictsAreZero(PinKindChecks x) {
        for (int a = 0; a < 10; a++) {
            for (int b = a; b < 10; b++) {
                Due.is("table(" + a + ", " + b + ", 0)", x.table(a, b, 0), false);
            }
        }
    }

    private static void hasNoThings(PinKindChecks x) {
        Due.outOfBounds("pin(0, NONE, 0)", () -> x.pin(0, NONE, 0));
        Due.outOfBounds("field(0, 0, 1)", () -> x.field(0, 0, 1) ? 1 : 0);
        Due.outOfBounds("end(0, 0, 0)", () -> x.end(0, 0, 0) ? 1 : 0);
        Due.outOfBounds("join(0, NONE)", () -> x.join(0, NONE) ? 1 : 0);
        for (int kind = 0; kind < 3; kind++) {
            int asked = kind;
            Due.outOfBounds("waive(0, " + kind + ", 0, 1)", () -> x.waive(0, asked, 0, 1) ? 1 : 0);
        }
        Due.is("run()", x.run(), 0);
        Due.is("the first part", x.part(0), 0);
        Due.is("the first net", x.net(0, 0), 0);
        Due.is("the first pin", x.pin(0, 0, 0), 0);
    }

    private static void hasNoRun(PinKindChecks x) {
        for (int what = 0; what < 6; what++) {
            int asked = what;
            Due.outOfBounds("remark(0, " + what + ")", () -> x.remark(0, asked));
            Due.outOfBounds("closed(0, " + what + ")", () -> x.closed(0, asked));
        }
    }

    private static void newObject() {
        Due.sentence("1: No things", () -> hasNoThings(new PinKindChecks()));
        Due.sentence("1: verdicts 0", () -> verdictsAreZero(new PinKindChecks()));
        Due.sentence("1: version 1", () -> {
            PinKindChecks x = withLoosePins(1);
            x.run();
            Due.is("first seen", x.remark(0, 4), 1);
            Due.is("next()", x.next(), 2);
        });
        Due.sentence("1: no run yet", () -> {
            PinKindChecks x = withLoosePins(2);
            hasNoRun(x);
            Due.is("the first run", x.run(), 2);
            Due.closedCount(x, 0);
        });
        Due.sentence("An object is used for at most 512 calls", () -> {
            PinKindChecks x = new PinKindChecks();
            for (int call = 1; call <= 512; call++) {
                Due.is("call " + call, x.next(), call + 1);
            }
        });
    }

    private static void table() {
        Due.sentence("2: whether it was another one", () -> {
            PinKindChecks x = new PinKindChecks();
            int[] verdicts = {0, 1, 1, 2, 2, 1, 0, 0, 2, 0};
            int before = 0;
            for (int verdict : verdicts) {
                Due.is(before + " becomes " + verdict, x.table(4, 7, verdict), before != verdict);
                before = verdict;
            }
        });
        Due.sentence("2: IndexOutOfBoundsException, when one is no kind", () -> {
            PinKindChecks x = new PinKindChecks();
            for (int kind : new int[] {-1, 10, 11, LOW, HIGH}) {
                Due.outOfBounds("table(" + kind + ", 0, 1)", () -> x.table(kind, 0, 1) ? 1 : 0);
                Due.outOfBounds("table(9, " + kind + ", 1)", () -> x.table(9, kind, 1) ? 1 : 0);
                Due.outOfBounds("table of twice " + kind, () -> x.table(kind, kind, 1) ? 1 : 0);
                Due.outOfBounds("table(0, " + kind + ", 3)", () -> x.table(0, kind, 3) ? 1 : 0);
            }
            verdictsAreZero(x);
        });
        Due.sentence("2: IllegalArgumentException, when it is no VERDICT", () -> {
            PinKindChecks x = new PinKindChecks();
            x.table(0, 9, 1);
            for (int verdict : new int[] {-1, 3, LOW, HIGH}) {
                Due.illegalArgument("table(0, 9, " + verdict + ")", () -> x.table(0, 9, verdict) ? 1 : 0);
            }
            Due.is("the verdict stays", x.table(0, 9, 1), false);
        });
    }

    private static void part() {
        Due.sentence("3: its number", () -> {
            PinKindChecks x = new PinKindChecks();
            for (int i = 0; i < 40; i++) {
                Due.is("part " + i, x.part(15 - i % 16), i);
            }
        });
        Due.sentence("3: NONE, when there are 40", () -> {
            PinKindChecks x = with(39, 0);
            Due.is("the 40th", x.part(15), 39);
            Due.is("the 41st", x.part(15), NONE);
            Due.is("the 42nd", x.part(0), NONE);
            Due.is("field(39, 0, 1)", x.field(39, 0, 1), true);
            Due.outOfBounds("field(40, 0, 1)", () -> x.field(40, 0, 1) ? 1 : 0);
            Due.outOfBounds("pin(40, NONE, 0)", () -> x.pin(40, NONE, 0));
            Due.outOfBounds("waive(0, 0, 40, 1)", () -> x.waive(0, 0, 40, 1) ? 1 : 0);
            Due.told(x, "part warn 1 = 1");
            Due.is("run() of 40 parts", x.run(), 40);
        });
        Due.sentence("3: IndexOutOfBoundsException, when it is no sheet", () -> {
            PinKindChecks x = with(39, 0);
            for (int sheet : new int[] {-1, 16, LOW, HIGH}) {
                Due.outOfBounds("part(" + sheet + ")", () -> x.part(sheet));
            }
            Due.is("a refused part has no number", x.part(0), 39);
            Due.outOfBounds("part(16) when there are 40", () -> x.part(16));
            Due.outOfBounds("part(-1) when there are 40", () -> x.part(-1));
        });
    }

    private static void net() {
        Due.sentence("4: A net likewise", () -> {
            PinKindChecks x = new PinKindChecks();
            for (int i = 0; i < 40; i++) {
                Due.is("net " + i, x.net(15 - i % 16, 999 - i), i);
            }
            Due.is("the 41st", x.net(15, 0), NONE);
            Due.is("the 42nd", x.net(0, 999), NONE);
            Due.is("end(39, 0, 0)", x.end(39, 0, 0), true);
            Due.outOfBounds("end(40, 0, 0)", () -> x.end(40, 0, 0) ? 1 : 0);
            Due.outOfBounds("waive(2, 1, 40, 1)", () -> x.waive(2, 1, 40, 1) ? 1 : 0);
            Due.told(x, "net warn 1 = 1");
            Due.is("run() of 40 nets", x.run(), 40);
        });
        Due.sentence("4: IndexOutOfBoundsException likewise", () -> {
            PinKindChecks x = with(0, 39);
            for (int sheet : new int[] {-1, 16, LOW, HIGH}) {
                Due.outOfBounds("net(" + sheet + ", 0)", () -> x.net(sheet, 0));
                Due.outOfBounds("net(" + sheet + ", 1000)", () -> x.net(sheet, 1000));
            }
            Due.is("a refused net has no number", x.net(0, 999), 39);
            Due.outOfBounds("net(16, 0) when there are 40", () -> x.net(16, 0));
        });
        Due.sentence("4: IllegalArgumentException, when it is no name", () -> {
            PinKindChecks x = with(0, 39);
            for (int name : new int[] {-1, 1000, LOW, HIGH}) {
                Due.illegalArgument("net(0, " + name + ")", () -> x.net(0, name));
            }
            Due.is("a refused net has no number", x.net(0, 999), 39);
            Due.illegalArgument("net(0, 1000) when there are 40", () -> x.net(0, 1000));
            Due.illegalArgument("net(0, -1) when there are 40", () -> x.net(0, -1));
        });
    }

    private static void pin() {
        Due.sentence("5: A pin, on a net or NONE: its number", () -> {
            PinKindChecks x = with(2, 2);
            Due.is("pin(1, 1, 9)", x.pin(1, 1, 9), 0);
            Due.is("pin(0, NONE, 0)", x.pin(0, NONE, 0), 1);
            Due.is("join(0, 1) where it is", x.join(0, 1), false);
            Due.is("join(1, NONE) where it is", x.join(1, NONE), false);
        });
        Due.sentence("5: NONE, when there are 160", () -> {
            PinKindChecks x = with(1, 1);
            for (int i = 0; i < 160; i++) {
                Due.is("pin " + i, x.pin(0, 0, 5), i);
            }
            Due.is("the 161st", x.pin(0, 0, 5), NONE);
            Due.is("the 162nd", x.pin(0, NONE, 5), NONE);
            Due.is("join(159, 0)", x.join(159, 0), false);
            Due.outOfBounds("join(160, 0)", () -> x.join(160, 0) ? 1 : 0);
            Due.outOfBounds("waive(0, 2, 160, 1)", () -> x.waive(0, 2, 160, 1) ? 1 : 0);
            Due.told(x, "part warn pins = 160 and any 5 = 160");
            Due.told(x, "net warn pins = 160 and any 5 = 160");
            Due.told(x, "pin warn 1 = 1");
            Due.is("run() of 160 pins", x.run(), 162);
        });
        Due.sentence("5: IndexOutOfBoundsException, when there is no such part or net", () -> {
            PinKindChecks x = with(2, 3);
            for (int part : new int[] {NONE, 2, LOW, HIGH}) {
                Due.outOfBounds("pin(" + part + ", 0, 0)", () -> x.pin(part, 0, 0));
                Due.outOfBounds("pin(" + part + ", NONE, 10)", () -> x.pin(part, NONE, 10));
            }
            for (int net : new int[] {-2, 3, LOW, HIGH}) {
                Due.outOfBounds("pin(0, " + net + ", 0)", () -> x.pin(0, net, 0));
                Due.outOfBounds("pin(0, " + net + ", -1)", () -> x.pin(0, net, -1));
            }
            Due.is("a refused pin has no number", x.pin(1, 2, 0), 0);
        });
        Due.sentence("5: IllegalArgumentException, when it is no kind", () -> {
            PinKindChecks x = with(1, 1);
            for (int kind : new int[] {-1, 10, LOW, HIGH}) {
                Due.illegalArgument("pin(0, 0, " + kind + ")", () -> x.pin(0, 0, kind));
                Due.illegalArgument("pin(0, NONE, " + kind + ")", () -> x.pin(0, NONE, kind));
            }
            Due.is("a refused pin is on no net", x.run(), 0);
            Due.is("a refused pin has no number", x.pin(0, 0, 9), 0);
        });
        Due.sentence("5: refused calls when there are 160", () -> {
            PinKindChecks x = withLoosePins(160);
            Due.outOfBounds("pin(1, NONE, 0)", () -> x.pin(1, NONE, 0));
            Due.outOfBounds("pin(0, 0, 0)", () -> x.pin(0, 0, 0));
            Due.illegalArgument("pin(0, NONE, 10)", () -> x.pin(0, NONE, 10));
        });
    }

    private static void join() {
        Due.sentence("6: whether it was elsewhere", () -> {
            PinKindChecks x = with(1, 2);
            x.pin(0, NONE, 0);
            int[] nets = {NONE, 0, 0, 1, 1, 0, NONE, NONE, 1, NONE};
            int before = NONE;
            for (int net : nets) {
                Due.is("from " + before + " to " + net, x.join(0, net), before != net);
                before = net;
            }
        });
        Due.sentence("6: the last pin and the last net", () -> {
            PinKindChecks x = with(1, 40);
            addLoosePins(x, 160);
            Due.is("join(159, 39)", x.join(159, 39), true);
            Due.is("join(159, 39) again", x.join(159, 39), false);
        });
        Due.sentence("6: IndexOutOfBoundsException, when there is no such pin or net", () -> {
            PinKindChecks x = with(1, 2);
            x.pin(0, 1, 0);
            for (int pin : new int[] {NONE, 1, LOW, HIGH}) {
                Due.outOfBounds("join(" + pin + ", 0)", () -> x.join(pin, 0) ? 1 : 0);
                Due.outOfBounds("join(" + pin + ", NONE)", () -> x.join(pin, NONE) ? 1 : 0);
            }
            for (int net : new int[] {-2, 2, LOW, HIGH}) {
                Due.outOfBounds("join(0, " + net + ")", () -> x.join(0, net) ? 1 : 0);
            }
            Due.is("the pin stays where it was", x.join(0, 1), false);
            Due.is("run()", x.run(), 1);
            Due.remark(x, 0, 4, 1, 1, 1, 1);
        });
    }

    private static void field() {
        Due.sentence("7: whether it was another value", () -> {
            PinKindChecks x = with(1, 0);
            long[] values = {0, 1L << 32, 0, 1, 1, (1L << 32) + 1, -1, 0xFFFFFFFFL, Long.MIN_VALUE, Long.MIN_VALUE,
                Long.MAX_VALUE, 0};
            long before = 0;
            for (long value : values) {
                Due.is(before + " becomes " + value, x.field(0, 7, value), before != value);
                before = value;
            }
        });
        Due.sentence("7: a part's field is its own", () -> {
            PinKindChecks x = with(40, 0);
            Due.is("field(39, 7, 5)", x.field(39, 7, 5), true);
            for (int part = 0; part < 40; part++) {
                for (int field = 0; field < 8; field++) {
                    boolean isThatOne = part == 39 && field == 7;
                    Due.is("field " + field + " of " + part, x.field(part, field, 0), isThatOne);
                }
            }
        });
        Due.sentence("7: IndexOutOfBoundsException, when there is no such part or field", () -> {
            PinKindChecks x = with(2, 0);
            for (int part : new int[] {-1, 2, 40, LOW, HIGH}) {
                Due.outOfBounds("field(" + part + ", 0, 1)", () -> x.field(part, 0, 1) ? 1 : 0);
            }
            for (int field : new int[] {-1, 8, LOW, HIGH}) {
                Due.outOfBounds("field(0, " + field + ", 1)", () -> x.field(0, field, 1) ? 1 : 0);
                Due.outOfBounds("field(1, " + field + ", 1)", () -> x.field(1, field, 1) ? 1 : 0);
            }
            for (int field = 0; field < 8; field++) {
                Due.is("a refused value of part 0", x.field(0, field, 0), false);
                Due.is("a refused value of part 1", x.field(1, field, 0), false);
            }
        });
    }

    private static void end() {
        Due.sentence("8: One more end of a net: true", () -> {
            PinKindChecks x = with(0, 1);
            Due.is("end(0, 7, 7)", x.end(0, 7, 7), true);
            Due.is("the same place once more", x.end(0, 7, 7), true);
            Due.is("a far place", x.end(0, Long.MIN_VALUE, Long.MAX_VALUE), true);
            Due.is("run() has one remark of them all", x.run(), 1);
        });
        Due.sentence("8: false, when there are 100", () -> {
            PinKindChecks x = with(0, 3);
            for (int i = 0; i < 99; i++) {
                Due.is("end " + i, x.end(0, 0, 0), true);
            }
            Due.is("the 100th", x.end(1, 1, 0), true);
            Due.is("the 101st", x.end(0, 1, 0), false);
            Due.is("the 101st of a net without ends", x.end(2, 0, 1), false);
            Due.is("run() has a remark of the 100th alone", x.run(), 1);
            Due.remark(x, 0, 6, 1, 1, 1, 1);
        });
        Due.sentence("8: IndexOutOfBoundsException, when there is no such net", () -> {
            PinKindChecks x = with(0, 2);
            for (int net : new int[] {NONE, 2, 40, LOW, HIGH}) {
                Due.outOfBounds("end(" + net + ", 1, 1)", () -> x.end(net, 1, 1) ? 1 : 0);
            }
            Due.is("run() after refused ends", x.run(), 0);
            for (int i = 0; i < 100; i++) {
                Due.is("a refused end does not count", x.end(i % 2, 0, 0), true);
            }
            Due.outOfBounds("end(2, 1, 1) when there are 100", () -> x.end(2, 1, 1) ? 1 : 0);
        });
    }

    private static void unit() {
        Due.sentence("9: One more character of a rule's text: true", () -> {
            PinKindChecks x = new PinKindChecks();
            for (int u = 32; u <= 126; u++) {
                Due.is("unit(" + u + ")", x.unit(u), true);
            }
        });
        Due.sentence("9: false, when it is not 32 .. 126", () -> {
            PinKindChecks x = new PinKindChecks();
            Due.letters(x, "part warn 1 = 1");
            for (int u : new int[] {31, 127, 0, -1, 9, 10, -32, 160, 255, 256 + 'x', 65536 + 'x', LOW, HIGH}) {
                Due.is("unit(" + u + ")", x.unit(u), false);
            }
            Due.letters(x, "0");
            Due.is("refused characters are not in the text", x.rule(), 7);
            Due.is("unit(127) of an empty text", x.unit(127), false);
            Due.is("it is still empty", x.rule(), -1);
        });
        Due.sentence("9: or there are 160", PromiseBoundaryTest::fullText);
        Due.sentence("9: the 160th character is read", () -> {
            PinKindChecks x = new PinKindChecks();
            Due.is("a text of 160", Due.told(x, padded("part warn 1 =", 159) + "1"), 7);
            PinKindChecks y = new PinKindChecks();
            Due.is("a wrong word at the end of 160", Due.told(y, padded("part warn 1 =", 159) + "="), -5);
        });
    }

    private static String padded(String text, int length) {
        return text + " ".repeat(length - text.length());
    }

    private static void fullText() {
        PinKindChecks x = new PinKindChecks();
        Due.letters(x, padded("part warn 1 = 1", 160));
        Due.is("the 161st, a space", x.unit(' '), false);
        Due.is("the 161st, a letter", x.unit('x'), false);
        Due.is("the 161st, no character", x.unit(127), false);
        Due.is("what was refused is not read", x.rule(), 7);
        Due.letters(x, padded("", 160));
        Due.is("the 161st of the next text", x.unit(' '), false);
        Due.is("the next text has no words", x.rule(), -1);
    }

    private static void rule() {
        Due.sentence("10: its number, from 7 on", () -> {
            PinKindChecks x = new PinKindChecks();
            for (int number = 7; number < 27; number++) {
                Due.is("rule " + number, Due.told(x, "pin warn 1 = 1"), number);
            }
        });
        Due.sentence("10: or -1 minus the WRONG word", () -> {
            PinKindChecks x = new PinKindChecks();
            Due.is("no word", x.rule(), -1);
            Due.is("word 0", Due.told(x, "x"), -1);
            Due.is("word 1", Due.told(x, "pin x"), -2);
            Due.is("word 5", Due.told(x, "pin warn 1 = 1 x"), -6);
            Due.is("the words end", Due.told(x, "pin warn 1 = 1 and"), -7);
            String longest = "net warn " + "not ".repeat(36) + "1 = 1 x";
            Due.is("a text of 160 with a wrong word at its end", Due.told(x, longest), -42);
            Due.is("wrong texts have no numbers", Due.told(x, "pin warn 1 = 1"), 7);
        });
        Due.sentence("10: It is gone then", () -> {
            PinKindChecks x = new PinKindChecks();
            Due.told(x, "pin warn 1 =");
            Due.is("a wrong text is gone", Due.told(x, "1"), -1);
            Due.told(x, "pin warn 1 = 1");
            Due.is("a right text is gone", Due.told(x, "and 1 = 1"), -1);
            Due.letters(x, padded("", 160));
            x.rule();
            Due.is("there is room again", x.unit(' '), true);
        });
        Due.sentence("10: It is gone then: nothing of it is left open", PromiseBoundaryTest::nothingLeftOpen);
        Due.sentence("10: IllegalStateException, when 20 are told", () -> {
            PinKindChecks x = withTold(19, "net warn 1 = 1");
            Due.is("a wrong text when 19 are told", Due.told(x, "net"), -2);
            Due.is("the 20th", Due.told(x, "net warn 1 = 1"), 26);
            Due.illegalState("rule() of no text", x::rule);
            Due.letters(x, "net warn 1 = 1");
            Due.illegalState("rule() of a right text", x::rule);
            Due.illegalState("rule() once more", x::rule);
            Due.outOfBounds("no rule 27", () -> x.off(27, true) ? 1 : 0);
            x.net(0, 0);
            Due.is("run() of 20 rules", x.run(), 20);
        });
        Due.sentence("10: (the text stays)", () -> {
            PinKindChecks x = withTold(20, "net warn 1 = 1");
            Due.letters(x, padded("", 159));
            Due.illegalState("rule()", x::rule);
            Due.is("the 160th", x.unit('x'), true);
            Due.is("the 161st", x.unit('x'), false);
            Due.illegalState("rule() again", x::rule);
            Due.is("the 161st again", x.unit('x'), false);
        });
    }

    /** Texts that end in the midst of things, and right ones behind them, in one object. */
    private static void nothingLeftOpen() {
        PinKindChecks x = with(0, 1);
        String[] unfinished = {"net warn not", "net warn ( ( not (", "net warn 1 = 1 +", "net warn 1 = 2 and",
            "net warn any", "net warn 1 = 2 or not ( 1 =", "net error 1 = x"};
        for (String text : unfinished) {
            Due.is("'" + text + "' is wrong", Due.told(x, text) < 0, true);
        }
        Due.is("eight brackets", Due.told(x, "net warn ( ( ( ( ( ( ( ( 1 = 1 ) ) ) ) ) ) ) )"), 7);
        Due.is("'net warn not' once more", Due.told(x, "net warn not"), -4);
        Due.is("a rule that holds", Due.told(x, "net warn 1 = 1"), 8);
        Due.is("'net warn not' again", Due.told(x, "net warn not"), -4);
        Due.is("a rule that does not hold", Due.told(x, "net warn 1 = 2"), 9);
        Due.is("a sign behind a term", Due.told(x, "net warn 1 = 1 x"), -6);
        Due.is("no sign yet", Due.told(x, "net warn 1 and"), -4);
        Due.is("run()", x.run(), 2);
        Due.remark(x, 0, 7, 1, 0, 1);
        Due.remark(x, 1, 8, 1, 0, 1);
    }

    private static PinKindChecks withTold(int rules, String text) {
        PinKindChecks x = new PinKindChecks();
        for (int i = 0; i < rules; i++) {
            Due.is("rule " + i, Due.told(x, text), 7 + i);
        }
        return x;
    }

    private static void off() {
        Due.sentence("11: from the next run on", () -> {
            PinKindChecks x = withLoosePins(1);
            x.off(0, true);
            Due.is("the first run", x.run(), 0);
            x.off(0, false);
            Due.remarks(x, 0);
            Due.is("on again", x.run(), 1);
            x.off(0, true);
            Due.remark(x, 0, 0, 2, 0, 2, 1);
            Due.closedCount(x, 0);
            Due.is("off again", x.run(), 0);
            Due.closed(x, 0, 0, 2, 0, 1);
        });
        Due.sentence("11: whether it was otherwise", () -> {
            PinKindChecks x = withTold(20, "net warn 1 = 1");
            for (int rule = 0; rule < 27; rule++) {
                Due.is("on at first: " + rule, x.off(rule, false), false);
                Due.is("off: " + rule, x.off(rule, true), true);
                Due.is("off again: " + rule, x.off(rule, true), false);
            }
            for (int rule = 0; rule < 27; rule++) {
                Due.is("on again: " + rule, x.off(rule, false), true);
            }
        });
        Due.sentence("11: IndexOutOfBoundsException, when there is no such rule", () -> {
            PinKindChecks x = new PinKindChecks();
            noRule(x, 7);
            Due.told(x, "net warn");
            noRule(x, 7);
            Due.told(x, "net warn 1 = 1");
            Due.is("off(7, true)", x.off(7, true), true);
            noRule(x, 8);
            Due.is("a refused rule is not off", x.offRule(1), NONE);
            Due.told(x, "net warn 1 = 1");
            Due.is("a later rule is on", x.off(8, false), false);
            noRule(withTold(20, "net warn 1 = 1"), 27);
        });
    }

    private static void noRule(PinKindChecks x, int beyond) {
        for (int rule : new int[] {-1, beyond, 26 + 1, LOW, HIGH}) {
            Due.outOfBounds("off(" + rule + ", true)", () -> x.off(rule, true) ? 1 : 0);
            Due.outOfBounds("off(" + rule + ", false)", () -> x.off(rule, false) ? 1 : 0);
        }
    }

    private static void run() {
        Due.sentence("12: how many remarks are OPEN", () -> {
            PinKindChecks x = withLoosePins(3);
            Due.is("all", x.run(), 3);
            x.waive(0, 2, 0, 0);
            Due.is("but one", x.run(), 2);
            x.waive(0, 2, 1, 999);
            x.waive(0, 2, 2, 1);
            Due.is("none", x.run(), 0);
            Due.remarks(x, 3);
            x.waive(0, 2, 1, NONE);
            Due.is("one again", x.run(), 1);
        });
        Due.sentence("12: nothing to remark on", () -> {
            PinKindChecks x = new PinKindChecks();
            Due.is("no things", x.run(), 0);
            x.part(0);
            x.net(0, 0);
            x.pin(0, NONE, 9);
            Due.is("things without fault", x.run(), 0);
            Due.remarks(x, 0);
            Due.closedCount(x, 0);
        });
        Due.sentence("12: the most remarks", PromiseBoundaryTest::mostRemarks);
    }

    /** Twenty rules about 160 pins, in as few letters as may be, and the built-in ones. */
    private static void mostRemarks() {
        PinKindChecks x = with(1, 0);
        addLoosePins(x, 160);
        for (int rule = 7; rule < 27; rule++) {
            Due.told(x, "pin warn 1 = 1");
        }
        Due.is("run()", x.run(), 160 * 21);
        Due.remark(x, 0, 0, 2, 0, 2, 1, NONE);
        Due.remark(x, 160 * 21 - 1, 26, 2, 159, 1, 1, NONE);
        Due.remarks(x, 160 * 21);
        x.off(26, true);
        Due.is("run() without rule 26", x.run(), 160 * 20);
        Due.closed(x, 159, 26, 2, 159, 1);
        Due.closedCount(x, 160);
    }

    private static void remark() {
        Due.sentence("13: Of remark k of the latest run (0 the first)", () -> {
            PinKindChecks x = withLoosePins(3);
            x.run();
            Due.remark(x, 0, 0, 2, 0, 2, 1, NONE);
            Due.remark(x, 2, 0, 2, 2, 2, 1, NONE);
            x.net(0, 0);
            x.join(0, 0);
            Due.remark(x, 0, 0, 2, 0, 2, 1, NONE);
            x.pin(0, NONE, 0);
            Due.remarks(x, 3);
            x.run();
            Due.remark(x, 0, 4, 1, 0, 1, 1, NONE);
            Due.remarks(x, 4);
            x.join(1, 0);
            x.run();
            Due.remarks(x, 2);
        });
        Due.sentence("13: the kind of its thing (1: 0 a part, 1 a net, 2 a pin)", () -> {
            PinKindChecks x = with(1, 1);
            x.pin(0, 0, 0);
            Due.told(x, "part error sheet = 0");
            Due.told(x, "net warn sheet = 0");
            Due.told(x, "pin error sheet = 0");
            x.off(4, true);
            x.run();
            Due.remark(x, 0, 7, 0, 0, 2, 1, NONE);
            Due.remark(x, 1, 8, 1, 0, 1, 1, NONE);
            Due.remark(x, 2, 9, 2, 0, 2, 1, NONE);
        });
        Due.sentence("13: the reason for which it is WAIVED now, or NONE", () -> {
            PinKindChecks x = withLoosePins(1);
            x.waive(0, 2, 0, 0);
            x.run();
            Due.is("reason 0", x.remark(0, 5), 0);
            x.waive(0, 2, 0, 999);
            Due.is("another reason since the run", x.remark(0, 5), 999);
            x.waive(0, 2, 0, NONE);
            Due.is("no reason since the run", x.remark(0, 5), NONE);
        });
        Due.sentence("13: IndexOutOfBoundsException, when there is no such remark, or what", () -> {
            PinKindChecks x = withLoosePins(2);
            x.run();
            for (int k : new int[] {-1, 2, 3, 32, LOW, HIGH}) {
                for (int what = 0; what < 6; what++) {
                    int asked = what;
                    Due.outOfBounds("remark(" + k + ", " + what + ")", () -> x.remark(k, asked));
                }
            }
            for (int what : new int[] {-1, 6, LOW, HIGH}) {
                Due.outOfBounds("remark(0, " + what + ")", () -> x.remark(0, what));
                Due.outOfBounds("remark(1, " + what + ")", () -> x.remark(1, what));
                Due.outOfBounds("remark(2, " + what + ")", () -> x.remark(2, what));
            }
        });
    }

    private static void closed() {
        Due.sentence("14: the version in which it was FIRST seen (3)", () -> {
            PinKindChecks x = withLoosePins(1);
            x.next();
            x.run();
            x.next();
            x.run();
            x.next();
            x.off(0, true);
            x.run();
            Due.closed(x, 0, 0, 2, 0, 2);
        });
        Due.sentence("14: a waived remark is closed like another", () -> {
            PinKindChecks x = withLoosePins(2);
            x.waive(0, 2, 1, 4);
            x.run();
            x.off(0, true);
            x.run();
            Due.closed(x, 0, 0, 2, 0, 1);
            Due.closed(x, 1, 0, 2, 1, 1);
            Due.closedCount(x, 2);
        });
        Due.sentence("14: IndexOutOfBoundsException likewise", () -> {
            PinKindChecks x = withLoosePins(2);
            x.run();
            Due.closedCount(x, 0);
            x.off(0, true);
            x.run();
            for (int k : new int[] {-1, 2, 3, 32, LOW, HIGH}) {
                for (int what = 0; what < 4; what++) {
                    int asked = what;
                    Due.outOfBounds("closed(" + k + ", " + what + ")", () -> x.closed(k, asked));
                }
            }
            for (int what : new int[] {-1, 4, 5, LOW, HIGH}) {
                Due.outOfBounds("closed(0, " + what + ")", () -> x.closed(0, what));
                Due.outOfBounds("closed(1, " + what + ")", () -> x.closed(1, what));
                Due.outOfBounds("closed(2, " + what + ")", () -> x.closed(2, what));
            }
        });
    }

    private static void waive() {
        Due.sentence("15: with a reason (0 .. 999), or not any more (NONE): whether it was otherwise", () -> {
            PinKindChecks x = withLoosePins(1);
            int[] reasons = {NONE, 0, 0, 999, 999, 0, NONE, NONE, 999, NONE};
            int before = NONE;
            for (int reason : reasons) {
                Due.is("from " + before + " to " + reason, x.waive(0, 2, 0, reason), before != reason);
                before = reason;
            }
        });
        Due.sentence("15: of a rule about a thing of a kind (0, 1, 2)", PromiseBoundaryTest::waiversOfTheirOwn);
        Due.sentence("15: false also, when 50 are", PromiseBoundaryTest::fiftyWaivers);
        Due.sentence("15: refused calls when 50 are", () -> {
            PinKindChecks x = withFiftyWaived();
            Due.outOfBounds("no rule", () -> x.waive(7, 2, 50, 1) ? 1 : 0);
            Due.outOfBounds("no kind", () -> x.waive(0, 3, 50, 1) ? 1 : 0);
            Due.outOfBounds("no thing", () -> x.waive(0, 2, 52, 1) ? 1 : 0);
            Due.illegalArgument("no reason", () -> x.waive(0, 2, 50, 1000) ? 1 : 0);
            Due.is("NONE of none", x.waive(0, 2, 50, NONE), false);
        });
        Due.sentence("15: IndexOutOfBoundsException, when there is no such rule, kind, or thing", () -> {
            PinKindChecks x = with(1, 2);
            addLoosePins(x, 3);
            for (int rule : new int[] {-1, 7, 27, LOW, HIGH}) {
                Due.outOfBounds("rule " + rule, () -> x.waive(rule, 2, 0, 1) ? 1 : 0);
                Due.outOfBounds("rule " + rule + ", no reason", () -> x.waive(rule, 2, 0, 1000) ? 1 : 0);
            }
            for (int kind : new int[] {-1, 3, LOW, HIGH}) {
                Due.outOfBounds("kind " + kind, () -> x.waive(0, kind, 0, 1) ? 1 : 0);
                Due.outOfBounds("kind " + kind + ", NONE", () -> x.waive(0, kind, 0, NONE) ? 1 : 0);
            }
            for (int kind = 0; kind < 3; kind++) {
                int asked = kind;
                for (int thing : new int[] {-1, kind + 1, LOW, HIGH}) {
                    Due.outOfBounds("thing " + thing, () -> x.waive(0, asked, thing, 1) ? 1 : 0);
                    Due.outOfBounds("thing " + thing + ", no reason", () -> x.waive(0, asked, thing, -2) ? 1 : 0);
                }
            }
            Due.is("none is waived", x.run(), 3);
        });
        Due.sentence("15: IllegalArgumentException, when it is no reason, nor NONE", () -> {
            PinKindChecks x = withLoosePins(1);
            x.waive(0, 2, 0, 5);
            x.run();
            for (int reason : new int[] {-2, 1000, LOW, HIGH}) {
                Due.illegalArgument("reason " + reason, () -> x.waive(0, 2, 0, reason) ? 1 : 0);
            }
            Due.is("the reason stays", x.remark(0, 5), 5);
        });
    }

    private static PinKindChecks withFiftyWaived() {
        PinKindChecks x = withLoosePins(52);
        for (int pin = 0; pin < 50; pin++) {
            Due.is("waiver " + pin, x.waive(0, 2, pin, pin), true);
        }
        return x;
    }

    private static void fiftyWaivers() {
        PinKindChecks x = withFiftyWaived();
        Due.is("the 51st", x.waive(0, 2, 50, 1), false);
        Due.is("the 51st of another rule", x.waive(1, 2, 0, 1), false);
        Due.is("the 51st of a part", x.waive(0, 0, 0, 1), false);
        Due.is("run()", x.run(), 2);
        Due.is("the refused one is not waived", x.remark(50, 5), NONE);
        Due.is("the 50th is", x.remark(49, 5), 49);
        Due.is("the same reason", x.waive(0, 2, 49, 49), false);
        Due.is("one goes", x.waive(0, 2, 0, NONE), true);
        Due.is("one comes", x.waive(0, 2, 50, 1), true);
        Due.is("the next is too many", x.waive(0, 2, 51, 1), false);
        Due.is("run() again", x.run(), 2);
        Due.is("the one that went", x.remark(0, 5), NONE);
        Due.is("the one that came", x.remark(50, 5), 1);
        Due.is("the last of old", x.remark(49, 5), 49);
    }

    /** Each rule and thing has a waiver of its own, also where their numbers are alike, and at the highest numbers. */
    private static void waiversOfTheirOwn() {
        PinKindChecks x = with(40, 40);
        addLoosePins(x, 160);
        int[][] things = {{0, 0}, {1, 0}, {2, 0}, {0, 39}, {1, 39}, {2, 39}, {2, 159}};
        int reason = 0;
        for (int rule = 0; rule < 7; rule++) {
            for (int[] thing : things) {
                Due.is("waiver " + reason, x.waive(rule, thing[0], thing[1], reason), true);
                reason++;
            }
        }
        reason = 0;
        for (int rule = 0; rule < 7; rule++) {
            for (int[] thing : things) {
                Due.is("waiver " + reason + " again", x.waive(rule, thing[0], thing[1], reason), false);
                reason++;
            }
        }
        Due.is("run() with three of 160 waived", x.run(), 157);
        Due.is("pin 39", x.remark(39, 5), 5);
        Due.is("pin 40", x.remark(40, 5), NONE);
        Due.is("pin 159", x.remark(159, 5), 6);
    }

    private static void next() {
        Due.sentence("16: The next version: its number", () -> {
            PinKindChecks x = withLoosePins(1);
            Due.is("next()", x.next(), 2);
            Due.is("next() without a run between", x.next(), 3);
            x.run();
            Due.is("first seen", x.remark(0, 4), 3);
            Due.is("next() after a run", x.next(), 4);
            Due.is("a run's remarks keep their version", x.remark(0, 4), 3);
        });
    }

    private static void offRule() {
        Due.sentence("17: The k-th rule that is OFF, rising", () -> {
            PinKindChecks x = withTold(20, "net warn 1 = 1");
            for (int rule = 26; rule >= 0; rule--) {
                x.off(rule, true);
                Due.is("offRule(0)", x.offRule(0), rule);
            }
            for (int k = 0; k < 27; k++) {
                Due.is("offRule(" + k + ")", x.offRule(k), k);
            }
            Due.is("offRule(27)", x.offRule(27), NONE);
        });
        Due.sentence("17: NONE, when there is none such", () -> {
            PinKindChecks x = new PinKindChecks();
            for (int k : new int[] {-1, 0, 1, 6, 7, LOW, HIGH}) {
                Due.is("offRule(" + k + ") when all are on", x.offRule(k), NONE);
            }
            x.off(0, true);
            x.off(6, true);
            Due.is("offRule(1)", x.offRule(1), 6);
            for (int k : new int[] {-1, 2, 6, LOW, HIGH}) {
                Due.is("offRule(" + k + ") when two are off", x.offRule(k), NONE);
            }
            x.off(0, false);
            Due.is("offRule(0) when one is on again", x.offRule(0), 6);
            Due.is("offRule(1) when one is on again", x.offRule(1), NONE);
        });
    }

    private static void clear() {
        Due.sentence("18: As at first: no things", () -> {
            PinKindChecks x = with(40, 40);
            addLoosePins(x, 160);
            x.clear();
            hasNoThings(x);
            Due.is("no field is left", x.field(0, 0, 0), false);
            Due.is("the second part", x.part(0), 1);
        });
        Due.sentence("18: (Verdicts, too.)", () -> {
            PinKindChecks x = new PinKindChecks();
            for (int kind = 0; kind < 10; kind++) {
                x.table(kind, 9 - kind, 1);
                x.table(kind, kind, 2);
            }
            x.clear();
            verdictsAreZero(x);
        });
        Due.sentence("18: As at first: version 1", () -> {
            PinKindChecks x = new PinKindChecks();
            x.next();
            x.next();
            x.clear();
            x.part(0);
            x.pin(0, NONE, 0);
            x.run();
            Due.is("first seen", x.remark(0, 4), 1);
            Due.is("next()", x.next(), 2);
        });
        Due.sentence("18: As at first: no run yet", PromiseBoundaryTest::clearedRuns);
        Due.sentence("18: As at first: fields are 0", () -> {
            PinKindChecks x = with(1, 0);
            for (int field = 0; field < 8; field++) {
                x.field(0, field, 9);
            }
            x.clear();
            x.part(0);
            for (int field = 0; field < 8; field++) {
                Due.is("field " + field, x.field(0, field, 0), false);
            }
        });
        Due.sentence("18: As at first: no ends", () -> {
            PinKindChecks x = with(0, 1);
            for (int i = 0; i < 100; i++) {
                x.end(0, 1, 1);
            }
            x.clear();
            x.net(0, 0);
            Due.is("run()", x.run(), 0);
            for (int i = 0; i < 100; i++) {
                Due.is("end " + i, x.end(0, 0, 0), true);
            }
            Due.is("the 101st", x.end(0, 0, 0), false);
        });
        Due.sentence("18: As at first: no text", () -> {
            PinKindChecks x = new PinKindChecks();
            Due.letters(x, padded("net", 160));
            x.clear();
            Due.is("there is room", x.unit('n'), true);
            Due.is("the old text is gone", Due.told(x, "et warn 1 = 1"), 7);
        });
        Due.sentence("18: As at first: no rules told, none off", () -> {
            PinKindChecks x = withTold(20, "net warn 1 = 1");
            for (int rule = 0; rule < 27; rule++) {
                x.off(rule, true);
            }
            x.clear();
            Due.is("none is off", x.offRule(0), NONE);
            noRule(x, 7);
            x.net(0, 0);
            Due.is("no rule remarks", x.run(), 0);
            Due.is("the first rule told", Due.told(x, "net warn 1 = 1"), 7);
            Due.is("it is on", x.off(7, false), false);
            Due.is("one rule remarks", x.run(), 1);
        });
        Due.sentence("18: As at first: none waived", () -> {
            PinKindChecks x = withFiftyWaived();
            x.clear();
            x.part(0);
            addLoosePins(x, 51);
            Due.is("all are open", x.run(), 51);
            Due.is("no reason", x.remark(0, 5), NONE);
            for (int pin = 0; pin < 50; pin++) {
                Due.is("waiver " + pin, x.waive(0, 2, pin, 3), true);
            }
            Due.is("waiver 50", x.waive(0, 2, 50, 3), false);
        });
        Due.sentence("18: clear() of a new object, and twice", () -> {
            PinKindChecks x = new PinKindChecks();
            x.clear();
            x.clear();
            verdictsAreZero(x);
            hasNoRun(x);
            hasNoThings(x);
        });
    }

    private static void clearedRuns() {
        PinKindChecks x = withLoosePins(3);
        x.run();
        x.net(0, 0);
        x.join(0, 0);
        x.run();
        x.clear();
        hasNoRun(x);
        x.part(0);
        addLoosePins(x, 1);
        x.next();
        Due.is("run()", x.run(), 1);
        Due.remark(x, 0, 0, 2, 0, 2, 2, NONE);
        Due.remarks(x, 1);
        Due.closedCount(x, 0);
    }
}
