import java.util.ArrayList;
import java.util.Collections;
import java.util.Comparator;
import java.util.HashMap;
import java.util.LinkedHashMap;
import java.util.List;
import java.util.Map;
import java.util.TreeSet;

/** The document once more, as plainly as it can be said: nothing is counted ahead, rules are read anew for each thing. */
final class Model {
    record Remark(int rule, int kind, int thing) {
    }

    record Seen(int weight, int first) {
    }

    final List<Integer> parts = new ArrayList<>();
    final List<long[]> fields = new ArrayList<>();
    final List<int[]> nets = new ArrayList<>();
    final List<int[]> pins = new ArrayList<>();
    final List<long[]> ends = new ArrayList<>();
    final List<String> told = new ArrayList<>();
    final Map<String, Integer> verdicts = new HashMap<>();
    final Map<Remark, Integer> waived = new HashMap<>();
    final TreeSet<Integer> off = new TreeSet<>();
    Map<Remark, Seen> latest = new LinkedHashMap<>();
    Map<Remark, Seen> closed = new LinkedHashMap<>();
    String text = "";
    int version = 1;

    private static void there(boolean is) {
        if (!is) {
            throw new IndexOutOfBoundsException();
        }
    }

    private static void fits(boolean is) {
        if (!is) {
            throw new IllegalArgumentException();
        }
    }

    private static boolean in(int low, int value, int high) {
        return low <= value && value <= high;
    }

    private static String pair(int a, int b) {
        return Math.min(a, b) + "/" + Math.max(a, b);
    }

    boolean table(int a, int b, int verdict) {
        there(in(0, a, 9) && in(0, b, 9));
        fits(in(0, verdict, 2));
        Integer old = verdicts.put(pair(a, b), verdict);
        return (old == null ? 0 : old) != verdict;
    }

    int part(int sheet) {
        there(in(0, sheet, 15));
        if (parts.size() == 40) {
            return -1;
        }
        parts.add(sheet);
        fields.add(new long[8]);
        return parts.size() - 1;
    }

    int net(int sheet, int name) {
        there(in(0, sheet, 15));
        fits(in(0, name, 999));
        if (nets.size() == 40) {
            return -1;
        }
        nets.add(new int[] {sheet, name});
        return nets.size() - 1;
    }

    int pin(int part, int net, int kind) {
        there(in(0, part, parts.size() - 1) && in(-1, net, nets.size() - 1));
        fits(in(0, kind, 9));
        if (pins.size() == 160) {
            return -1;
        }
        pins.add(new int[] {part, net, kind});
        return pins.size() - 1;
    }

    boolean join(int pin, int net) {
        there(in(0, pin, pins.size() - 1) && in(-1, net, nets.size() - 1));
        boolean elsewhere = pins.get(pin)[1] != net;
        pins.get(pin)[1] = net;
        return elsewhere;
    }

    boolean field(int part, int field, long v) {
        there(in(0, part, parts.size() - 1) && in(0, field, 7));
        boolean another = fields.get(part)[field] != v;
        fields.get(part)[field] = v;
        return another;
    }

    boolean end(int net, long x, long y) {
        there(in(0, net, nets.size() - 1));
        return ends.size() < 100 && ends.add(new long[] {net, x, y});
    }

    boolean unit(int u) {
        if (!in(32, u, 126) || text.length() == 160) {
            return false;
        }
        text += (char) u;
        return true;
    }

    int rule() {
        if (told.size() == 20) {
            throw new IllegalStateException();
        }
        Reading reading = new Reading(this, text, 0, 0);
        String read = text;
        text = "";
        try {
            reading.rule();
        } catch (UnsupportedOperationException wrong) {
            return -1 - reading.at;
        }
        told.add(read);
        return told.size() + 6;
    }

    boolean off(int rule, boolean is) {
        there(in(0, rule, told.size() + 6));
        return is ? off.add(rule) : off.remove(rule);
    }

    int offRule(int k) {
        return in(0, k, off.size() - 1) ? new ArrayList<>(off).get(k) : -1;
    }

    boolean waive(int rule, int kind, int thing, int reason) {
        there(in(0, rule, told.size() + 6) && in(0, kind, 2) && in(0, thing, count(kind) - 1));
        fits(in(-1, reason, 999));
        Remark what = new Remark(rule, kind, thing);
        if (reason == -1) {
            return waived.remove(what) != null;
        }
        if (!waived.containsKey(what) && waived.size() == 50) {
            return false;
        }
        Integer old = waived.put(what, reason);
        return old == null || old != reason;
    }

    int next() {
        return ++version;
    }

    int run() {
        List<Remark> made = new ArrayList<>();
        Map<Remark, Integer> weights = new HashMap<>();
        for (int kind = 0; kind < 3; kind++) {
            for (int thing = 0; thing < count(kind); thing++) {
                for (int rule = 0; rule < told.size() + 7; rule++) {
                    int weight = off.contains(rule) ? 0 : weight(rule, kind, thing);
                    if (weight > 0) {
                        made.add(new Remark(rule, kind, thing));
                        weights.put(new Remark(rule, kind, thing), weight);
                    }
                }
            }
        }
        Map<Remark, Seen> before = latest;
        latest = new LinkedHashMap<>();
        int open = 0;
        for (Remark one : sorted(made)) {
            Seen earlier = before.get(one);
            latest.put(one, new Seen(weights.get(one), earlier == null ? version : earlier.first()));
            open += waived.containsKey(one) ? 0 : 1;
        }
        closed = new LinkedHashMap<>();
        for (Remark one : sorted(new ArrayList<>(before.keySet()))) {
            if (!latest.containsKey(one)) {
                closed.put(one, before.get(one));
            }
        }
        return open;
    }

    private List<Remark> sorted(List<Remark> remarks) {
        Collections.sort(remarks, Comparator.comparingInt((Remark r) -> sheet(r.kind(), r.thing()))
                .thenComparingInt(Remark::kind).thenComparingInt(Remark::thing).thenComparingInt(Remark::rule));
        return remarks;
    }

    int remark(int k, int what) {
        there(in(0, k, latest.size() - 1) && in(0, what, 5));
        Remark one = new ArrayList<>(latest.keySet()).get(k);
        Seen seen = latest.get(one);
        return new int[] {one.rule(), one.kind(), one.thing(), seen.weight(), seen.first(),
            waived.getOrDefault(one, -1)}[what];
    }

    int closed(int k, int what) {
        there(in(0, k, closed.size() - 1) && in(0, what, 3));
        Remark one = new ArrayList<>(closed.keySet()).get(k);
        return new int[] {one.rule(), one.kind(), one.thing(), closed.get(one).first()}[what];
    }

    private int count(int kind) {
        return kind == 0 ? parts.size() : kind == 1 ? nets.size() : pins.size();
    }

    int sheet(int kind, int thing) {
        return kind == 0 ? parts.get(thing) : kind == 1 ? nets.get(thing)[0] : parts.get(pins.get(thing)[0]);
    }

    /** How many pins of a kind (any: -1) a part or a net has. */
    long pinsOf(int kind, int thing, int pinKind) {
        return pins.stream().filter(p -> p[kind] == thing && (pinKind < 0 || p[2] == pinKind)).count();
    }

    private int weight(int rule, int kind, int thing) {
        if (rule >= 7) {
            Reading reading = new Reading(this, told.get(rule - 7), kind, thing);
            boolean holds = reading.rule();
            return holds && reading.subject == kind ? reading.weight : 0;
        }
        if (kind == 2) {
            int[] pin = pins.get(thing);
            if (rule == 0) {
                return pin[1] < 0 && pin[2] != 9 ? 2 : 0;
            }
            int worst = 0;
            for (int lower = 0; rule == 1 && pin[1] >= 0 && lower < thing; lower++) {
                if (pins.get(lower)[1] == pin[1]) {
                    worst = Math.max(worst, verdicts.getOrDefault(pair(pin[2], pins.get(lower)[2]), 0));
                }
            }
            return worst;
        }
        return kind == 1 ? netWeight(rule, thing) : 0;
    }

    private int netWeight(int rule, int net) {
        boolean two = rule == 2 && pinsOf(1, net, 1) > 1
                || rule == 3 && pinsOf(1, net, 3) > 0 && pinsOf(1, net, 4) == 0
                || rule == 5 && nets.subList(0, net).stream().anyMatch(n -> n[1] == nets.get(net)[1]);
        boolean one = rule == 4 && pinsOf(1, net, -1) == 1
                || rule == 6 && ends.stream().anyMatch(e -> e[0] == net && (e[1] % 100 != 0 || e[2] % 100 != 0));
        return two ? 2 : one ? 1 : 0;
    }

    /** One reading of a rule's text from left to right, with one thing in mind; a wrong word ends it by an exception. */
    private static final class Reading {
        private final Model model;
        private final List<String> words = new ArrayList<>();
        private final int kind;
        private final int thing;
        private int open = 0;
        int at = 0;
        int subject = 0;
        int weight = 0;

        Reading(Model model, String text, int kind, int thing) {
            this.model = model;
            this.kind = kind;
            this.thing = thing;
            for (String word : text.split(" ")) {
                if (!word.isEmpty()) {
                    words.add(word);
                }
            }
        }

        private boolean at(String regex) {
            return at < words.size() && words.get(at).matches(regex);
        }

        private String take(String regex) {
            if (!at(regex)) {
                throw new UnsupportedOperationException();
            }
            return words.get(at++);
        }

        /** Whether the condition holds for the thing, if the thing is a subject of this rule. */
        boolean rule() {
            subject = List.of("part", "net", "pin").indexOf(take("part|net|pin"));
            weight = take("warn|error").equals("warn") ? 1 : 2;
            boolean holds = condition();
            if (at < words.size()) {
                throw new UnsupportedOperationException();
            }
            return holds;
        }

        private boolean condition() {
            boolean holds = ands();
            while (at("or")) {
                take("or");
                holds |= ands();
            }
            return holds;
        }

        private boolean ands() {
            boolean holds = nots();
            while (at("and")) {
                take("and");
                holds &= nots();
            }
            return holds;
        }

        private boolean nots() {
            if (at("not")) {
                take("not");
                return !nots();
            }
            if (at("\\(") && open < 8) {
                take("\\(");
                open++;
                boolean holds = condition();
                take("\\)");
                open--;
                return holds;
            }
            long left = sum();
            String sign = take("[=#<>]|<=|>=");
            int compared = Long.compare(left, sum());
            return compared == 0 ? sign.endsWith("=")
                    : compared < 0 ? sign.startsWith("<") || sign.equals("#")
                    : sign.startsWith(">") || sign.equals("#");
        }

        private long sum() {
            long sum = product();
            while (at("[+-]")) {
                sum = take("[+-]").equals("+") ? sum + product() : sum - product();
            }
            return sum;
        }

        private long product() {
            long product = term();
            while (at("\\*")) {
                take("\\*");
                product *= term();
            }
            return product;
        }

        private String termWords() {
            String[] ofSubject = {"f[0-7]|pins|any", "pins|name|any", "f[0-7]|kind|name"};
            return "[0-9]{1,9}|sheet|" + ofSubject[subject];
        }

        private long term() {
            String word = take(termWords());
            String digit = word.equals("any") ? take("[0-9]") : "";
            if (word.matches("[0-9]+")) {
                return Long.parseLong(word);
            }
            boolean isThere = subject == kind && thing < model.count(kind);
            return isThere ? valueOf(word, digit) : 0;
        }

        private long valueOf(String word, String digit) {
            switch (word) {
                case "sheet":
                    return model.sheet(kind, thing);
                case "any":
                    return model.pinsOf(kind, thing, Integer.parseInt(digit));
                case "pins":
                    return model.pinsOf(kind, thing, -1);
                case "kind":
                    return model.pins.get(thing)[2];
                case "name":
                    int net = kind == 1 ? thing : model.pins.get(thing)[1];
                    return net < 0 ? -1 : model.nets.get(net)[1];
                default:
                    int part = kind == 0 ? thing : model.pins.get(thing)[0];
                    return model.fields.get(part)[word.charAt(1) - '0'];
            }
        }
    }
}
