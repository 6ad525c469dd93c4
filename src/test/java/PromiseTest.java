/** Each promise with ordinary inputs, the edges that the document names, and wrong inputs. */
public final class PromiseTest {
    private static final int NONE = PinKindChecks.NONE;
    private static final int LOW = Integer.MIN_VALUE;
    private static final int HIGH = Integer.MAX_VALUE;

    public static void main(String[] args) {
        newObject();
        table();
        part();
        net();
        pin();
        join();
        field();
        end();
        unit();
        rule();
        off();
        ruleZero();
        ruleOne();
        rulesOfNets();
        order();
        mostRemarks();
        remark();
        firstAndClosed();
        waive();
        waiveFifty();
        next();
        offRule();
        clear();
        Due.end();
    }

    /** Promises 1 and 18: what stands in a new object, and in one that has been cleared. */
    private static void isNew(PinKindChecks x) {
        Due.outOfBounds("remark before a run", () -> x.remark(0, 0));
        Due.outOfBounds("closed before a run", () -> x.closed(0, 0));
        Due.outOfBounds("field without parts", () -> x.field(0, 0, 1) ? 1 : 0);
        Due.outOfBounds("end without nets", () -> x.end(0, 0, 0) ? 1 : 0);
        Due.outOfBounds("join without pins", () -> x.join(0, NONE) ? 1 : 0);
        Due.outOfBounds("off(7) without told rules", () -> x.off(7, true) ? 1 : 0);
        Due.is("offRule(0)", x.offRule(0), NONE);
        Due.is("rule() without a text", x.rule(), -1);
        Due.is("run() without things", x.run(), 0);
        for (int a = 0; a < 10; a++) {
            for (int b = a; b < 10; b++) {
                Due.is("verdict of " + a + ", " + b + " is 0", x.table(a, b, 0), false);
            }
        }
        Due.is("next()", x.next(), 2);
    }

    private static void newObject() {
        isNew(new PinKindChecks());
    }

    private static void table() {
        PinKindChecks x = new PinKindChecks();
        Due.is("table(0, 9, 0)", x.table(0, 9, 0), false);
        Due.is("table(0, 9, 2)", x.table(0, 9, 2), true);
        Due.is("table(9, 0, 2)", x.table(9, 0, 2), false);
        Due.is("table(9, 0, 1)", x.table(9, 0, 1), true);
        Due.is("table(0, 9, 1)", x.table(0, 9, 1), false);
        Due.is("table(9, 9, 0)", x.table(9, 9, 0), false);
        for (int kind : new int[] {-1, 10, LOW, HIGH}) {
            Due.outOfBounds("table(" + kind + ", 0, 1)", () -> x.table(kind, 0, 1) ? 1 : 0);
            Due.outOfBounds("table(0, " + kind + ", 1)", () -> x.table(0, kind, 1) ? 1 : 0);
            Due.outOfBounds("table(0, " + kind + ", 3)", () -> x.table(0, kind, 3) ? 1 : 0);
        }
        for (int verdict : new int[] {-1, 3, LOW, HIGH}) {
            Due.illegalArgument("table(0, 0, " + verdict + ")", () -> x.table(0, 0, verdict) ? 1 : 0);
        }
        Due.is("table(0, 0, 0) after wrong ones", x.table(0, 0, 0), false);
    }

    private static void part() {
        PinKindChecks x = new PinKindChecks();
        for (int sheet : new int[] {-1, 16, LOW, HIGH}) {
            Due.outOfBounds("part(" + sheet + ")", () -> x.part(sheet));
        }
        for (int i = 0; i < 40; i++) {
            Due.is("part " + i, x.part(i % 16), i);
        }
        Due.is("part 40", x.part(0), NONE);
        Due.outOfBounds("part(16) when there are 40", () -> x.part(16));
        Due.is("field of the last part", x.field(39, 0, 1), true);
        Due.outOfBounds("field of part 40", () -> x.field(40, 0, 1) ? 1 : 0);
    }

    private static void net() {
        PinKindChecks x = new PinKindChecks();
        for (int sheet : new int[] {-1, 16, LOW, HIGH}) {
            Due.outOfBounds("net(" + sheet + ", 0)", () -> x.net(sheet, 0));
            Due.outOfBounds("net(" + sheet + ", -1)", () -> x.net(sheet, -1));
        }
        for (int name : new int[] {-1, 1000, LOW, HIGH}) {
            Due.illegalArgument("net(0, " + name + ")", () -> x.net(0, name));
        }
        for (int i = 0; i < 40; i++) {
            Due.is("net " + i, x.net(i % 16, 999 - i), i);
        }
        Due.is("net 40", x.net(15, 0), NONE);
        Due.outOfBounds("net(16, 0) when there are 40", () -> x.net(16, 0));
        Due.illegalArgument("net(0, 1000) when there are 40", () -> x.net(0, 1000));
        Due.is("end of the last net", x.end(39, 0, 0), true);
        Due.outOfBounds("end of net 40", () -> x.end(40, 0, 0) ? 1 : 0);
    }

    private static void pin() {
        PinKindChecks x = new PinKindChecks();
        x.part(0);
        x.net(0, 0);
        for (int number : new int[] {-1, 1, LOW, HIGH}) {
            Due.outOfBounds("pin(" + number + ", 0, 0)", () -> x.pin(number, 0, 0));
            Due.outOfBounds("pin(" + number + ", 0, 10)", () -> x.pin(number, 0, 10));
        }
        for (int number : new int[] {-2, 1, LOW, HIGH}) {
            Due.outOfBounds("pin(0, " + number + ", 0)", () -> x.pin(0, number, 0));
        }
        for (int kind : new int[] {-1, 10, LOW, HIGH}) {
            Due.illegalArgument("pin(0, 0, " + kind + ")", () -> x.pin(0, 0, kind));
        }
        for (int i = 0; i < 160; i++) {
            Due.is("pin " + i, x.pin(0, i % 2 - 1, i % 10), i);
        }
        Due.is("pin 160", x.pin(0, 0, 0), NONE);
        Due.outOfBounds("pin of no part when there are 160", () -> x.pin(1, 0, 0));
        Due.illegalArgument("pin of no kind when there are 160", () -> x.pin(0, 0, 10));
        Due.is("the last pin can move", x.join(159, NONE), true);
        Due.is("a refused pin does not count", Due.told(x, "part warn pins = 160 and any 0 = 16"), 7);
        x.off(0, true);
        for (int rule = 1; rule < 7; rule++) {
            x.off(rule, true);
        }
        Due.is("run()", x.run(), 1);
    }

    private static void join() {
        PinKindChecks x = new PinKindChecks();
        x.part(0);
        x.net(0, 0);
        x.net(0, 1);
        x.pin(0, 0, 5);
        Due.is("join(0, 0) where it is", x.join(0, 0), false);
        Due.is("join(0, 1)", x.join(0, 1), true);
        Due.is("join(0, 1) again", x.join(0, 1), false);
        x.run();
        Due.remark(x, 0, 4, 1, 1, 1, 1);
        Due.remarks(x, 1);
        Due.is("join(0, NONE)", x.join(0, NONE), true);
        Due.is("join(0, NONE) again", x.join(0, NONE), false);
        x.run();
        Due.remark(x, 0, 0, 2, 0, 2, 1);
        Due.remarks(x, 1);
        for (int number : new int[] {-1, 1, LOW, HIGH}) {
            Due.outOfBounds("join(" + number + ", 0)", () -> x.join(number, 0) ? 1 : 0);
        }
        for (int number : new int[] {-2, 2, LOW, HIGH}) {
            Due.outOfBounds("join(0, " + number + ")", () -> x.join(0, number) ? 1 : 0);
        }
    }

    private static void field() {
        PinKindChecks x = new PinKindChecks();
        x.part(0);
        for (int field = 0; field < 8; field++) {
            Due.is("a field is 0 at first", x.field(0, field, 0), false);
            Due.is("a field's other value", x.field(0, field, Long.MIN_VALUE + field), true);
            Due.is("a field's same value", x.field(0, field, Long.MIN_VALUE + field), false);
        }
        Due.is("a field back to 0", x.field(0, 0, 0), true);
        for (int number : new int[] {-1, 1, LOW, HIGH}) {
            Due.outOfBounds("field(" + number + ", 0, 1)", () -> x.field(number, 0, 1) ? 1 : 0);
        }
        for (int field : new int[] {-1, 8, LOW, HIGH}) {
            Due.outOfBounds("field(0, " + field + ", 1)", () -> x.field(0, field, 1) ? 1 : 0);
        }
    }

    private static void end() {
        PinKindChecks x = new PinKindChecks();
        x.net(0, 0);
        x.net(0, 1);
        for (int number : new int[] {-1, 2, LOW, HIGH}) {
            Due.outOfBounds("end(" + number + ", 0, 0)", () -> x.end(number, 0, 0) ? 1 : 0);
        }
        for (int i = 0; i < 100; i++) {
            Due.is("end " + i, x.end(i % 2, 100L * i, -300L * i), true);
        }
        Due.is("end 100", x.end(0, 1, 1), false);
        Due.outOfBounds("end of no net when there are 100", () -> x.end(2, 0, 0) ? 1 : 0);
        Due.is("run() without an end off the grid", x.run(), 0);
    }

    private static void unit() {
        PinKindChecks x = new PinKindChecks();
        for (int u : new int[] {31, 127, -1, 0, 10, 32 + 256, 32 + 65536, LOW, HIGH}) {
            Due.is("unit(" + u + ")", x.unit(u), false);
        }
        Due.is("unit(126)", x.unit(126), true);
        Due.is("the text is ~", x.rule(), -1);
        Due.letters(x, "pin warn kind = 0");
        for (int i = 17; i < 160; i++) {
            Due.is("unit " + i, x.unit(32), true);
        }
        Due.is("unit 160", x.unit(32), false);
        Due.is("unit 160, a letter", x.unit('x'), false);
        Due.is("rule of 160", x.rule(), 7);
        Due.is("unit after rule()", x.unit(32), true);
    }

    private static void rule() {
        PinKindChecks x = new PinKindChecks();
        for (int i = 0; i < 20; i++) {
            Due.is("rule " + i, Due.told(x, "net warn 1 = 1"), 7 + i);
        }
        Due.letters(x, "net");
        Due.illegalState("rule() when 20 are told", x::rule);
        for (int i = 3; i < 160; i++) {
            Due.is("the text stays", x.unit(32), true);
        }
        Due.is("the text has stayed", x.unit(32), false);
        PinKindChecks y = new PinKindChecks();
        Due.is("a wrong word", Due.told(y, "part warn wrong"), -3);
        Due.is("the wrong text is gone", y.rule(), -1);
        Due.is("a wrong text is no rule", Due.told(y, "part warn 1 = 1"), 7);
        Due.is("the right text is gone", y.rule(), -1);
    }

    private static void off() {
        PinKindChecks x = new PinKindChecks();
        x.part(0);
        x.pin(0, NONE, 0);
        Due.is("run()", x.run(), 1);
        Due.is("off(0, false) when on", x.off(0, false), false);
        Due.is("off(0, true)", x.off(0, true), true);
        Due.is("off(0, true) again", x.off(0, true), false);
        Due.remark(x, 0, 0, 2, 0, 2, 1);
        Due.is("run() without rule 0", x.run(), 0);
        Due.is("off(0, false)", x.off(0, false), true);
        Due.remarks(x, 0);
        Due.is("run() with rule 0 again", x.run(), 1);
        Due.is("off(6, true)", x.off(6, true), true);
        for (int rule : new int[] {-1, 7, 27, LOW, HIGH}) {
            Due.outOfBounds("off(" + rule + ", true)", () -> x.off(rule, true) ? 1 : 0);
        }
        Due.told(x, "part error sheet = 0");
        Due.is("run() with rule 7", x.run(), 2);
        Due.is("off(7, true)", x.off(7, true), true);
        Due.is("run() without rule 7", x.run(), 1);
        Due.outOfBounds("off(8, true)", () -> x.off(8, true) ? 1 : 0);
    }

    private static void ruleZero() {
        PinKindChecks x = new PinKindChecks();
        x.part(0);
        x.net(0, 0);
        for (int kind = 0; kind < 10; kind++) {
            x.pin(0, NONE, kind);
        }
        Due.is("run() of pins without a net", x.run(), 9);
        for (int kind = 0; kind < 9; kind++) {
            Due.remark(x, kind, 0, 2, kind, 2, 1);
        }
        Due.remarks(x, 9);
    }

    private static void ruleOne() {
        PinKindChecks x = new PinKindChecks();
        x.part(0);
        x.net(0, 0);
        x.net(0, 1);
        x.table(5, 6, 1);
        x.table(7, 6, 2);
        x.table(8, 8, 1);
        x.pin(0, 0, 6);
        x.pin(0, 0, 5);
        x.pin(0, 0, 7);
        x.pin(0, 0, 5);
        x.pin(0, 1, 8);
        x.pin(0, NONE, 9);
        x.pin(0, 1, 8);
        x.pin(0, 1, 5);
        x.pin(0, NONE, 9);
        x.table(9, 9, 2);
        Due.is("run() of pins that must not meet", x.run(), 4);
        Due.remark(x, 0, 1, 2, 1, 1, 1);
        Due.remark(x, 1, 1, 2, 2, 2, 1);
        Due.remark(x, 2, 1, 2, 3, 1, 1);
        Due.remark(x, 3, 1, 2, 6, 1, 1);
        x.table(6, 5, 2);
        x.table(5, 7, 1);
        Due.remark(x, 0, 1, 2, 1, 1, 1);
        x.next();
        Due.is("run() with another table", x.run(), 4);
        Due.remark(x, 0, 1, 2, 1, 2, 1);
        Due.remark(x, 1, 1, 2, 2, 2, 1);
        Due.remark(x, 2, 1, 2, 3, 2, 1);
        x.join(0, 1);
        Due.is("run() with the lowest pin elsewhere", x.run(), 4);
        Due.remark(x, 0, 1, 2, 2, 1, 1);
        Due.remark(x, 1, 1, 2, 3, 1, 1);
        Due.remark(x, 2, 1, 2, 6, 1, 1);
        Due.remark(x, 3, 1, 2, 7, 2, 2);
        Due.closed(x, 0, 1, 2, 1, 1);
    }

    private static void rulesOfNets() {
        PinKindChecks x = new PinKindChecks();
        x.part(0);
        for (int net = 0; net < 6; net++) {
            x.net(0, net == 5 ? 3 : net);
        }
        x.pin(0, 0, 1);
        x.pin(0, 0, 1);
        x.pin(0, 1, 1);
        x.pin(0, 1, 3);
        x.pin(0, 2, 3);
        x.pin(0, 2, 4);
        x.pin(0, 3, 4);
        x.end(4, 100, 0);
        x.end(4, 0, -101);
        x.end(4, 0, 0);
        Due.is("run() of nets", x.run(), 5);
        Due.remark(x, 0, 2, 1, 0, 2, 1);
        Due.remark(x, 1, 3, 1, 1, 2, 1);
        Due.remark(x, 2, 4, 1, 3, 1, 1);
        Due.remark(x, 3, 6, 1, 4, 1, 1);
        Due.remark(x, 4, 5, 1, 5, 2, 1);
        x.end(5, Long.MIN_VALUE, 0);
        x.end(0, 0, Long.MAX_VALUE);
        x.end(1, 9_223_372_036_854_775_800L, -9_223_372_036_854_775_800L);
        Due.is("run() with far ends", x.run(), 7);
        Due.remark(x, 1, 6, 1, 0, 1, 1);
        Due.remark(x, 6, 6, 1, 5, 1, 1);
    }

    private static void order() {
        PinKindChecks x = new PinKindChecks();
        x.part(2);
        x.part(0);
        x.part(15);
        x.net(2, 1);
        x.net(0, 1);
        x.net(15, 1);
        x.pin(0, NONE, 0);
        x.pin(2, NONE, 0);
        x.pin(1, NONE, 0);
        x.pin(1, NONE, 0);
        Due.told(x, "pin warn 1 = 1");
        Due.told(x, "net error 1 = 1");
        Due.told(x, "part warn 1 = 1");
        int[][] want = {
            {9, 0, 1}, {5, 1, 1}, {8, 1, 1}, {0, 2, 2}, {7, 2, 2}, {0, 2, 3}, {7, 2, 3},
            {9, 0, 0}, {8, 1, 0}, {0, 2, 0}, {7, 2, 0},
            {9, 0, 2}, {5, 1, 2}, {8, 1, 2}, {0, 2, 1}, {7, 2, 1},
        };
        Due.is("run() in order", x.run(), want.length);
        for (int k = 0; k < want.length; k++) {
            Due.remark(x, k, want[k]);
        }
        for (int rule = 0; rule < 10; rule++) {
            x.off(rule, true);
        }
        Due.is("run() of no rule", x.run(), 0);
        for (int k = 0; k < want.length; k++) {
            Due.closed(x, k, want[k]);
        }
        Due.closedCount(x, want.length);
    }

    /** As many remarks as 512 calls can bring about, or nearly so. */
    private static void mostRemarks() {
        PinKindChecks x = new PinKindChecks();
        x.part(0);
        for (int pin = 0; pin < 160; pin++) {
            x.pin(0, NONE, 0);
        }
        for (int rule = 7; rule < 27; rule++) {
            Due.is("rule " + rule, Due.told(x, "pin warn 1 = 1"), rule);
        }
        for (int net = 0; net < 4; net++) {
            x.net(15, 0);
        }
        int count = 160 * 21 + 3;
        Due.is("run() with most remarks", x.run(), count);
        Due.remark(x, count - 1, 5, 1, 3, 2, 1);
        Due.remarks(x, count);
        for (int rule = 0; rule < 27; rule++) {
            x.off(rule, true);
        }
        Due.is("run() of no rule", x.run(), 0);
        Due.closed(x, count - 1, 5, 1, 3, 1);
        Due.closedCount(x, count);
    }

    private static void remark() {
        PinKindChecks x = new PinKindChecks();
        x.part(4);
        x.pin(0, NONE, 3);
        x.pin(0, NONE, 3);
        Due.remarks(x, 0);
        x.run();
        for (int k : new int[] {-1, 2, LOW, HIGH}) {
            Due.outOfBounds("remark(" + k + ", 0)", () -> x.remark(k, 0));
            Due.outOfBounds("closed(" + k + ", 0)", () -> x.closed(k, 0));
        }
        for (int what : new int[] {-1, 6, LOW, HIGH}) {
            Due.outOfBounds("remark(0, " + what + ")", () -> x.remark(0, what));
        }
        x.waive(0, 2, 1, 0);
        Due.remark(x, 0, 0, 2, 0, 2, 1, NONE);
        Due.remark(x, 1, 0, 2, 1, 2, 1, 0);
        x.part(4);
        x.pin(1, NONE, 3);
        Due.remarks(x, 2);
    }

    private static void firstAndClosed() {
        PinKindChecks x = new PinKindChecks();
        x.part(0);
        x.net(0, 0);
        x.pin(0, NONE, 0);
        x.pin(0, NONE, 0);
        x.run();
        x.next();
        x.join(0, 0);
        Due.closedCount(x, 0);
        x.run();
        Due.remark(x, 0, 4, 1, 0, 1, 2);
        Due.remark(x, 1, 0, 2, 1, 2, 1);
        Due.closed(x, 0, 0, 2, 0, 1);
        Due.closedCount(x, 1);
        for (int what : new int[] {-1, 4, LOW, HIGH}) {
            Due.outOfBounds("closed(0, " + what + ")", () -> x.closed(0, what));
        }
        x.next();
        x.run();
        Due.remark(x, 0, 4, 1, 0, 1, 2);
        Due.remark(x, 1, 0, 2, 1, 2, 1);
        Due.closedCount(x, 0);
        x.join(0, NONE);
        x.run();
        Due.remark(x, 0, 0, 2, 0, 2, 3);
        Due.closed(x, 0, 4, 1, 0, 2);
        Due.closedCount(x, 1);
        x.join(0, 0);
        x.join(1, 0);
        x.run();
        Due.remarks(x, 0);
        Due.closed(x, 0, 0, 2, 0, 3);
        Due.closed(x, 1, 0, 2, 1, 1);
        Due.closedCount(x, 2);
        x.run();
        Due.closedCount(x, 0);
    }

    private static void waive() {
        PinKindChecks x = new PinKindChecks();
        x.part(0);
        x.net(0, 0);
        x.pin(0, NONE, 0);
        x.pin(0, 0, 0);
        Due.is("run()", x.run(), 2);
        Due.is("waive(0, 2, 0, NONE) of none", x.waive(0, 2, 0, NONE), false);
        Due.is("waive(0, 2, 0, 0)", x.waive(0, 2, 0, 0), true);
        Due.is("waive(0, 2, 0, 0) again", x.waive(0, 2, 0, 0), false);
        Due.is("waive(0, 2, 0, 999)", x.waive(0, 2, 0, 999), true);
        Due.is("remark(1, 5) now", x.remark(1, 5), 999);
        Due.is("remark(0, 5) of another", x.remark(0, 5), NONE);
        Due.is("run() with one waived", x.run(), 1);
        Due.remark(x, 1, 0, 2, 0, 2, 1, 999);
        Due.closedCount(x, 0);
        Due.is("waive(4, 0, 0, 1), a part", x.waive(4, 0, 0, 1), true);
        Due.is("the net is not waived", x.remark(0, 5), NONE);
        Due.is("waive(4, 1, 0, 5)", x.waive(4, 1, 0, 5), true);
        Due.is("the net is waived", x.remark(0, 5), 5);
        Due.is("run() with two waived", x.run(), 0);
        Due.remarks(x, 2);
        Due.is("waive(0, 2, 0, NONE)", x.waive(0, 2, 0, NONE), true);
        Due.is("waive(0, 2, 0, NONE) again", x.waive(0, 2, 0, NONE), false);
        Due.is("remark(1, 5) not any more", x.remark(1, 5), NONE);
        Due.is("the other stays waived", x.remark(0, 5), 5);
        Due.is("run() with one waived", x.run(), 1);
        wrongWaivers(x);
    }

    private static void wrongWaivers(PinKindChecks x) {
        for (int rule : new int[] {-1, 7, LOW, HIGH}) {
            Due.outOfBounds("waive(" + rule + ", 0, 0, 1)", () -> x.waive(rule, 0, 0, 1) ? 1 : 0);
        }
        for (int kind : new int[] {-1, 3, LOW, HIGH}) {
            Due.outOfBounds("waive(0, " + kind + ", 0, 1)", () -> x.waive(0, kind, 0, 1) ? 1 : 0);
        }
        for (int thing : new int[] {-1, 2, LOW, HIGH}) {
            Due.outOfBounds("waive(0, 2, " + thing + ", 1)", () -> x.waive(0, 2, thing, 1) ? 1 : 0);
        }
        Due.outOfBounds("waive(0, 0, 1, 1)", () -> x.waive(0, 0, 1, 1) ? 1 : 0);
        Due.outOfBounds("waive(0, 1, 1, 1)", () -> x.waive(0, 1, 1, 1) ? 1 : 0);
        Due.outOfBounds("waive(7, 0, 0, 1000)", () -> x.waive(7, 0, 0, 1000) ? 1 : 0);
        for (int reason : new int[] {-2, 1000, LOW, HIGH}) {
            Due.illegalArgument("waive(0, 0, 0, " + reason + ")", () -> x.waive(0, 0, 0, reason) ? 1 : 0);
        }
        Due.told(x, "pin warn 1 = 1");
        Due.is("waive of a told rule", x.waive(7, 2, 1, 3), true);
    }

    private static void waiveFifty() {
        PinKindChecks x = new PinKindChecks();
        x.part(0);
        for (int pin = 0; pin < 52; pin++) {
            x.pin(0, NONE, 0);
        }
        for (int pin = 0; pin < 50; pin++) {
            Due.is("waiver " + pin, x.waive(0, 2, pin, pin), true);
        }
        Due.is("waiver 50", x.waive(0, 2, 50, 1), false);
        Due.is("run() with 50 waived", x.run(), 2);
        Due.is("the refused one", x.remark(50, 5), NONE);
        Due.illegalArgument("waive of no reason when 50 are", () -> x.waive(0, 2, 50, 1000) ? 1 : 0);
        Due.is("another reason when 50 are", x.waive(0, 2, 3, 700), true);
        Due.is("the other reason", x.remark(3, 5), 700);
        Due.is("one is not waived any more", x.waive(0, 2, 7, NONE), true);
        Due.is("there is room again", x.waive(0, 2, 51, 8), true);
        Due.is("no room again", x.waive(0, 2, 7, 8), false);
        Due.is("run() with 50 others waived", x.run(), 2);
        for (int pin = 0; pin < 52; pin++) {
            int reason = pin == 7 || pin == 50 ? NONE : pin == 3 ? 700 : pin == 51 ? 8 : pin;
            Due.is("reason of " + pin, x.remark(pin, 5), reason);
        }
    }

    private static void next() {
        PinKindChecks x = new PinKindChecks();
        for (int version = 2; version < 400; version++) {
            Due.is("next()", x.next(), version);
        }
        x.part(0);
        x.pin(0, NONE, 0);
        x.run();
        Due.is("first seen in version 399", x.remark(0, 4), 399);
    }

    private static void offRule() {
        PinKindChecks x = new PinKindChecks();
        Due.told(x, "net warn 1 = 1");
        Due.told(x, "net warn 1 = 1");
        x.off(8, true);
        x.off(0, true);
        x.off(5, true);
        Due.is("offRule(0)", x.offRule(0), 0);
        Due.is("offRule(1)", x.offRule(1), 5);
        Due.is("offRule(2)", x.offRule(2), 8);
        x.off(5, false);
        Due.is("offRule(1)", x.offRule(1), 8);
        for (int k : new int[] {-1, 2, 27, LOW, HIGH}) {
            Due.is("offRule(" + k + ")", x.offRule(k), NONE);
        }
    }

    private static void clear() {
        PinKindChecks x = new PinKindChecks();
        fill(x);
        x.clear();
        isNew(x);
        x.clear();
        fill(x);
        x.clear();
        Due.is("part after clear()", x.part(0), 0);
        Due.is("net after clear()", x.net(0, 7), 0);
        Due.is("pin after clear()", x.pin(0, 0, 1), 0);
        Due.is("a field is 0 after clear()", x.field(0, 0, 0), false);
        Due.is("run() after clear()", x.run(), 1);
        Due.remark(x, 0, 4, 1, 0, 1, 1, NONE);
        Due.remarks(x, 1);
        Due.closedCount(x, 0);
        Due.is("told rules are numbered anew", Due.told(x, "net warn 1 = 1"), 7);
        Due.is("a new rule is on", x.offRule(0), NONE);
        for (int i = 0; i < 100; i++) {
            Due.is("there is room for 100 ends again", x.end(0, 0, 0), true);
        }
    }

    private static void fill(PinKindChecks x) {
        x.part(0);
        x.net(0, 7);
        x.net(1, 7);
        x.pin(0, 0, 1);
        x.pin(0, NONE, 1);
        x.field(0, 0, 5);
        x.end(0, 1, 1);
        x.table(1, 1, 2);
        x.table(0, 9, 1);
        Due.told(x, "pin warn 1 = 1");
        x.off(0, true);
        x.off(7, true);
        x.run();
        x.waive(4, 1, 0, 3);
        x.next();
        x.off(6, true);
        x.run();
        Due.letters(x, "net warn");
    }
}
