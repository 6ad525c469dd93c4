import java.util.ArrayList;
import java.util.List;
import java.util.Random;

/** Runs of up to 512 calls, drawn by fixed seeds, on the class and on the model beside it: both must answer alike. */
public final class RandomRunsTest {
    private static final int RUNS = 1500;
    private static final int MOST_CALLS = 512;

    private final Random random;
    private final PinKindChecks x = new PinKindChecks();
    private final List<String> calls = new ArrayList<>();
    private final boolean isBusy;
    private final int wrongInputs;
    private Model model = new Model();

    private RandomRunsTest(long seed) {
        random = new Random(seed);
        isBusy = random.nextBoolean();
        wrongInputs = random.nextInt(3) == 0 ? 12 : 200;
    }

    public static void main(String[] args) {
        for (int seed = 0; seed < RUNS && Due.allRight(); seed++) {
            new RandomRunsTest(seed).play();
        }
        Due.end();
    }

    private void play() {
        if (isBusy) {
            build();
        }
        while (calls.size() < MOST_CALLS && Due.allRight()) {
            step();
        }
        if (!Due.allRight()) {
            System.out.println("the run: " + String.join(" ", calls));
        }
    }

    /** Many things at once, so that the limits come into reach. */
    private void build() {
        int parts = 1 + random.nextInt(41);
        int nets = random.nextInt(42);
        int pins = random.nextInt(random.nextInt(4) == 0 ? 165 : 40);
        for (int i = 0; i < parts; i++) {
            part();
        }
        for (int i = 0; i < nets; i++) {
            net();
        }
        for (int i = 0; i < pins; i++) {
            pin();
        }
    }

    private void step() {
        int draw = random.nextInt(100);
        if (draw < 6) {
            part();
        } else if (draw < 12) {
            net();
        } else if (draw < 26) {
            pin();
        } else if (draw < 34) {
            int pin = near(model.pins.size());
            int net = netOrNone();
            same("join(" + pin + ", " + net + ")", () -> is(x.join(pin, net)), () -> is(model.join(pin, net)));
        } else if (draw < 40) {
            int part = near(model.parts.size());
            int field = near(8);
            long v = number();
            same("field(" + part + ", " + field + ", " + v + ")", () -> is(x.field(part, field, v)),
                    () -> is(model.field(part, field, v)));
        } else if (draw < 45) {
            int net = near(model.nets.size());
            long a = place();
            long b = place();
            same("end(" + net + ", " + a + ", " + b + ")", () -> is(x.end(net, a, b)), () -> is(model.end(net, a, b)));
        } else if (draw < 50) {
            int a = near(10);
            int b = near(10);
            int verdict = near(3);
            same("table(" + a + ", " + b + ", " + verdict + ")", () -> is(x.table(a, b, verdict)),
                    () -> is(model.table(a, b, verdict)));
        } else {
            lateStep(draw);
        }
    }

    private void lateStep(int draw) {
        if (draw < 54) {
            tell(new Texts(random).text());
        } else if (draw < 60) {
            int rule = near(model.told.size() + 7);
            boolean is = random.nextBoolean();
            same("off(" + rule + ", " + is + ")", () -> is(x.off(rule, is)), () -> is(model.off(rule, is)));
        } else if (draw < 72) {
            waive();
        } else if (draw < 84) {
            same("run()", x::run, model::run);
            lookAround();
        } else if (draw < 88) {
            same("next()", x::next, model::next);
        } else if (draw < 90) {
            int k = near(model.off.size() + 1);
            same("offRule(" + k + ")", () -> x.offRule(k), () -> model.offRule(k));
        } else if (draw < 96) {
            int k = near(model.latest.size());
            int what = near(6);
            same("remark(" + k + ", " + what + ")", () -> x.remark(k, what), () -> model.remark(k, what));
        } else if (draw < 99) {
            int k = near(model.closed.size());
            int what = near(4);
            same("closed(" + k + ", " + what + ")", () -> x.closed(k, what), () -> model.closed(k, what));
        } else if (random.nextInt(4) == 0) {
            clear();
        }
    }

    private void clear() {
        calls.add("clear()");
        x.clear();
        model = new Model();
    }

    private void part() {
        int sheet = near(16);
        same("part(" + sheet + ")", () -> x.part(sheet), () -> model.part(sheet));
    }

    private void net() {
        int sheet = near(16);
        int name = random.nextInt(30) == 0 ? near(1000) : random.nextInt(12);
        same("net(" + sheet + ", " + name + ")", () -> x.net(sheet, name), () -> model.net(sheet, name));
    }

    private void pin() {
        int part = near(model.parts.size());
        int net = netOrNone();
        int kind = near(10);
        same("pin(" + part + ", " + net + ", " + kind + ")", () -> x.pin(part, net, kind),
                () -> model.pin(part, net, kind));
    }

    private void waive() {
        int rule;
        int kind;
        int thing;
        if (!model.latest.isEmpty() && random.nextBoolean()) {
            int k = random.nextInt(model.latest.size());
            rule = model.remark(k, 0);
            kind = model.remark(k, 1);
            thing = model.remark(k, 2);
        } else {
            rule = near(model.told.size() + 7);
            kind = near(3);
            thing = near(kind == 0 ? model.parts.size() : kind == 1 ? model.nets.size() : model.pins.size());
        }
        int reason = random.nextInt(4) == 0 ? -1 : random.nextBoolean() ? near(1000) : random.nextInt(3);
        same("waive(" + rule + ", " + kind + ", " + thing + ", " + reason + ")",
                () -> is(x.waive(rule, kind, thing, reason)), () -> is(model.waive(rule, kind, thing, reason)));
    }

    private void tell(String text) {
        for (int i = 0; i < text.length(); i++) {
            int u = text.charAt(i);
            same("unit(" + u + ")", () -> is(x.unit(u)), () -> is(model.unit(u)));
        }
        same("rule() of '" + model.text + "'", x::rule, model::rule);
    }

    /** What a run made: its first remark and its last, some between, and that there is none behind the last. */
    private void lookAround() {
        int remarks = model.latest.size();
        int closed = model.closed.size();
        int looks = random.nextInt(isBusy ? 8 : 4);
        for (int i = 0; i < looks; i++) {
            lookAtRemark(i == 0 ? remarks - 1 : i == 1 ? 0 : near(remarks));
            lookAtClosed(i == 0 ? closed - 1 : i == 1 ? 0 : near(closed));
        }
        same("remark(" + remarks + ", 0)", () -> x.remark(remarks, 0), () -> model.remark(remarks, 0));
        same("closed(" + closed + ", 0)", () -> x.closed(closed, 0), () -> model.closed(closed, 0));
    }

    private void lookAtRemark(int k) {
        for (int i = 0; i < 6; i++) {
            int what = i;
            same("remark(" + k + ", " + what + ")", () -> x.remark(k, what), () -> model.remark(k, what));
        }
    }

    private void lookAtClosed(int k) {
        for (int i = 0; i < 4; i++) {
            int what = i;
            same("closed(" + k + ", " + what + ")", () -> x.closed(k, what), () -> model.closed(k, what));
        }
    }

    private static long is(boolean answer) {
        return answer ? 1 : 0;
    }

    /** Mostly a number from 0 to below the bound, now and then one outside. */
    private int near(int bound) {
        if (random.nextInt(wrongInputs) == 0) {
            int[] outside = {-1, -2, bound, bound + 1, Integer.MIN_VALUE, Integer.MAX_VALUE};
            return outside[random.nextInt(outside.length)];
        }
        return bound <= 0 ? 0 : random.nextInt(bound);
    }

    private int netOrNone() {
        return random.nextInt(5) == 0 ? -1 : near(Math.min(model.nets.size(), isBusy ? 40 : 4));
    }

    private long number() {
        return random.nextInt(8) == 0 ? random.nextLong() : random.nextInt(5) - 1;
    }

    private long place() {
        return random.nextInt(10) == 0 ? random.nextLong() : 100L * (random.nextInt(9) - 4);
    }

    /** What later calls answer is free, so none is made after the 512th. */
    private void same(String call, Due.Call made, Due.Call wanted) {
        if (calls.size() >= MOST_CALLS) {
            return;
        }
        calls.add(call);
        String got = outcome(made);
        String want = outcome(wanted);
        if (!got.equals(want)) {
            Due.tell(call + " answered " + got + ", the model " + want);
        }
    }

    private static String outcome(Due.Call call) {
        try {
            return Long.toString(call.answer());
        } catch (RuntimeException e) {
            return e.getClass().getName();
        }
    }

    /** Texts that are rules, and texts that fall short of it by a word or two. */
    private static final class Texts {
        private static final String[] WORDS = {"part", "net", "pin", "warn", "error", "or", "and", "not", "(", ")", "=",
            "#", "<", ">", "<=", ">=", "+", "-", "*", "0", "17", "1234567890", "f0", "f7", "f8", "pins", "kind", "name",
            "sheet", "any", "~", "any4", "=="};
        private static final String[][] TERMS = {
            {"f0", "f1", "f7", "pins", "sheet", "any 1", "any 3"},
            {"pins", "name", "sheet", "any 1", "any 4"},
            {"f0", "f1", "f7", "kind", "name", "sheet"},
        };

        private final Random random;
        private int subject = 0;

        Texts(Random random) {
            this.random = random;
        }

        String text() {
            subject = random.nextInt(3);
            String start = WORDS[subject] + " " + (random.nextBoolean() ? "warn" : "error") + " ";
            String text = start + condition(random.nextInt(4));
            int faults = random.nextInt(3) == 0 ? 1 + random.nextInt(2) : 0;
            for (int i = 0; i < faults; i++) {
                text = spoiled(text);
            }
            return random.nextInt(10) == 0 ? " " + text.replace(" ", "  ") + " " : text;
        }

        private String spoiled(String text) {
            List<String> words = new ArrayList<>(List.of(text.split(" ")));
            int at = random.nextInt(words.size());
            switch (random.nextInt(4)) {
                case 0:
                    words.set(at, WORDS[random.nextInt(WORDS.length)]);
                    break;
                case 1:
                    words.add(at, WORDS[random.nextInt(WORDS.length)]);
                    break;
                case 2:
                    words.remove(at);
                    break;
                default:
                    words = words.subList(0, at);
                    break;
            }
            return String.join(" ", words);
        }

        private String condition(int depth) {
            int draw = depth == 0 ? 0 : random.nextInt(6);
            switch (draw) {
                case 1:
                    return condition(depth - 1) + " or " + condition(depth - 1);
                case 2:
                    return condition(depth - 1) + " and " + condition(depth - 1);
                case 3:
                    return "not " + condition(depth - 1);
                case 4:
                    return "( " + condition(depth - 1) + " )";
                case 5:
                    return brackets(1 + random.nextInt(9), condition(depth - 1));
                default:
                    return sum() + " " + WORDS[10 + random.nextInt(6)] + " " + sum();
            }
        }

        private String brackets(int many, String inside) {
            return "( ".repeat(many) + inside + " )".repeat(many);
        }

        private String sum() {
            StringBuilder sum = new StringBuilder(term());
            while (random.nextInt(3) == 0) {
                sum.append(' ').append("+-*".charAt(random.nextInt(3))).append(' ').append(term());
            }
            return sum.toString();
        }

        private String term() {
            return random.nextInt(3) == 0 ? Integer.toString(random.nextInt(4))
                    : TERMS[subject][random.nextInt(TERMS[subject].length)];
        }
    }
}
