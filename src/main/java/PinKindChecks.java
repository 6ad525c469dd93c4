import java.util.Arrays;

/** Checks of a schematic, as ../shared/DOC.md promises them. */
public final class PinKindChecks {
    public static final int NONE = -1;

    private static final int SHEETS = 16;
    private static final int MOST_PARTS = 40;
    private static final int MOST_NETS = 40;
    private static final int MOST_PINS = 160;
    private static final int MOST_ENDS = 100;
    private static final int FIELDS = 8;
    private static final int PIN_KINDS = 10;
    private static final int MOST_VERDICT = 2;
    private static final int MOST_NAME = 999;
    private static final int MOST_REASON = 999;
    private static final int MOST_WAIVED = 50;

    private static final int PART = 0;
    private static final int NET = 1;
    private static final int PIN = 2;
    private static final int THING_KINDS = 3;

    private static final int WARN = 1;
    private static final int ERROR = 2;

    private static final int BUILT_IN_RULES = 7;
    private static final int MOST_TOLD = 20;
    private static final int MOST_RULES = BUILT_IN_RULES + MOST_TOLD;
    // Two built-in rules are about pins and five about nets; told rules bring most when all are about pins.
    private static final int MOST_REMARKS = MOST_PINS * (2 + MOST_TOLD) + MOST_NETS * 5;

    private static final int MOST_LETTERS = 160;
    private static final int MOST_WORDS = MOST_LETTERS / 2;

    private static final int REMARK_PARTS = 6;
    private static final int CLOSED_PARTS = 4;

    private final Schematic schematic = new Schematic();
    private final RuleReader reader = new RuleReader();
    private final ToldRule[] told = new ToldRule[MOST_TOLD];
    private final boolean[] isOff = new boolean[MOST_RULES];
    private final Waivers waivers = new Waivers();
    private final Remarks closedRemarks = new Remarks();
    private final long[] stack = new long[MOST_WORDS];
    private Remarks latest = new Remarks();
    private Remarks before = new Remarks();
    private int toldCount = 0;
    private int version = 1;

    public PinKindChecks() {
    }

    public boolean table(int kindA, int kindB, int verdict) throws IndexOutOfBoundsException, IllegalArgumentException {
        if (!isBelow(kindA, PIN_KINDS) || !isBelow(kindB, PIN_KINDS)) {
            throw new IndexOutOfBoundsException("no such kind");
        }
        if (!isBelow(verdict, MOST_VERDICT + 1)) {
            throw new IllegalArgumentException("no verdict");
        }
        return schematic.setVerdict(kindA, kindB, verdict);
    }

    public int part(int sheet) throws IndexOutOfBoundsException {
        if (!isBelow(sheet, SHEETS)) {
            throw new IndexOutOfBoundsException("no such sheet");
        }
        return schematic.addPart(sheet);
    }

    public int net(int sheet, int name) throws IndexOutOfBoundsException, IllegalArgumentException {
        if (!isBelow(sheet, SHEETS)) {
            throw new IndexOutOfBoundsException("no such sheet");
        }
        if (!isBelow(name, MOST_NAME + 1)) {
            throw new IllegalArgumentException("no name");
        }
        return schematic.addNet(sheet, name);
    }

    public int pin(int part, int net, int kind) throws IndexOutOfBoundsException, IllegalArgumentException {
        Part owner = schematic.partAt(part);
        if (owner == null || !isNetOrNone(net)) {
            throw new IndexOutOfBoundsException("no such part or net");
        }
        if (!isBelow(kind, PIN_KINDS)) {
            throw new IllegalArgumentException("no kind");
        }
        return schematic.addPin(owner, schematic.netAt(net), kind);
    }

    public boolean join(int pin, int net) throws IndexOutOfBoundsException {
        Pin moved = schematic.pinAt(pin);
        if (moved == null || !isNetOrNone(net)) {
            throw new IndexOutOfBoundsException("no such pin or net");
        }
        return moved.moveTo(schematic.netAt(net));
    }

    public boolean field(int part, int field, long v) throws IndexOutOfBoundsException {
        Part owner = schematic.partAt(part);
        if (owner == null || !isBelow(field, FIELDS)) {
            throw new IndexOutOfBoundsException("no such part or field");
        }
        return owner.setField(field, v);
    }

    public boolean end(int net, long x, long y) throws IndexOutOfBoundsException {
        Net owner = schematic.netAt(net);
        if (owner == null) {
            throw new IndexOutOfBoundsException("no such net");
        }
        return schematic.addEnd(owner, x, y);
    }

    public boolean unit(int u) {
        return reader.addLetter(u);
    }

    public int rule() throws IllegalStateException {
        if (toldCount >= told.length) {
            throw new IllegalStateException("no more rules can be told");
        }
        ToldRule read = reader.readRule();
        reader.wipe();
        if (read == null) {
            return -1 - reader.wrongWord();
        }
        told[toldCount] = read;
        toldCount++;
        return ruleCount() - 1;
    }

    public boolean off(int rule, boolean is) throws IndexOutOfBoundsException {
        if (!isRule(rule)) {
            throw new IndexOutOfBoundsException("no such rule");
        }
        boolean wasOtherwise = isOff[rule] != is;
        isOff[rule] = is;
        return wasOtherwise;
    }

    public int run() {
        Remarks spare = before;
        before = latest;
        latest = spare;
        latest.wipe();
        for (int i = 0; i < schematic.thingCount(); i++) {
            checkThing(schematic.thingInOrder(i));
        }
        compareWithBefore();
        return countOpen();
    }

    public int remark(int k, int what) throws IndexOutOfBoundsException {
        if (!isBelow(k, latest.count()) || !isBelow(what, REMARK_PARTS)) {
            throw new IndexOutOfBoundsException("no such remark or part of it");
        }
        switch (what) {
            case 3:
                return latest.weightOf(k);
            case 4:
                return latest.firstOf(k);
            case 5:
                return waivers.reasonFor(latest.keyOf(k));
            default:
                return aboutKey(latest.keyOf(k), what);
        }
    }

    public int closed(int k, int what) throws IndexOutOfBoundsException {
        if (!isBelow(k, closedRemarks.count()) || !isBelow(what, CLOSED_PARTS)) {
            throw new IndexOutOfBoundsException("no such closed remark or part of it");
        }
        return what == 3 ? closedRemarks.firstOf(k) : aboutKey(closedRemarks.keyOf(k), what);
    }

    public boolean waive(int rule, int kind, int thing, int reason) throws IndexOutOfBoundsException, IllegalArgumentException {
        Thing waived = schematic.thingOf(kind, thing);
        if (!isRule(rule) || waived == null) {
            throw new IndexOutOfBoundsException("no such rule, kind or thing");
        }
        if (reason != NONE && !isBelow(reason, MOST_REASON + 1)) {
            throw new IllegalArgumentException("no reason");
        }
        return waivers.setReason(waived.keyWith(rule), reason);
    }

    public int next() {
        version++;
        return version;
    }

    public int offRule(int k) {
        int found = 0;
        for (int rule = 0; rule < isOff.length; rule++) {
            if (isOff[rule]) {
                if (found == k) {
                    return rule;
                }
                found++;
            }
        }
        return NONE;
    }

    public void clear() {
        schematic.wipe();
        reader.wipe();
        waivers.wipe();
        latest.wipe();
        before.wipe();
        closedRemarks.wipe();
        for (int rule = 0; rule < isOff.length; rule++) {
            isOff[rule] = false;
        }
        toldCount = 0;
        version = 1;
    }

    private static boolean isBelow(int number, int bound) {
        return number >= 0 && number < bound;
    }

    private boolean isNetOrNone(int net) {
        return net == NONE || schematic.netAt(net) != null;
    }

    private int ruleCount() {
        return BUILT_IN_RULES + toldCount;
    }

    private boolean isRule(int rule) {
        return isBelow(rule, ruleCount()) && rule < isOff.length;
    }

    private void checkThing(Thing thing) {
        if (thing == null) {
            return;
        }
        for (int rule = 0; rule < ruleCount() && rule < isOff.length; rule++) {
            int weight = isOff[rule] ? 0 : weightOf(rule, thing);
            if (weight > 0) {
                latest.add(thing.keyWith(rule), weight, version);
            }
        }
    }

    /** 0, when the rule has no remark about the thing. */
    private int weightOf(int rule, Thing thing) {
        if (rule < BUILT_IN_RULES) {
            return thing.builtInWeight(rule, schematic);
        }
        int index = rule - BUILT_IN_RULES;
        ToldRule asked = isBelow(index, told.length) ? told[index] : null;
        return asked != null && asked.isAbout(thing) && asked.holdsFor(thing, stack) ? asked.weight() : 0;
    }

    /** Both runs are in the same order, for no thing ever changes its sheet, so one walk along both is enough. */
    private void compareWithBefore() {
        closedRemarks.wipe();
        int at = 0;
        for (int i = 0; i < before.count(); i++) {
            int key = before.keyOf(i);
            while (at < latest.count() && latest.keyOf(at) < key) {
                at++;
            }
            if (at < latest.count() && latest.keyOf(at) == key) {
                latest.setFirst(at, before.firstOf(i));
            } else {
                closedRemarks.add(key, before.weightOf(i), before.firstOf(i));
            }
        }
    }

    private int countOpen() {
        int open = 0;
        for (int i = 0; i < latest.count(); i++) {
            if (waivers.reasonFor(latest.keyOf(i)) == NONE) {
                open++;
            }
        }
        return open;
    }

    /** The rule (0), the kind of thing (1) or the thing's number (2) out of what Thing.keyWith has put together. */
    private static int aboutKey(int key, int what) {
        if (what == 0) {
            return key % MOST_RULES;
        }
        int place = key / MOST_RULES;
        return what == 1 ? place / MOST_PINS % THING_KINDS : place % MOST_PINS;
    }

    private abstract static class Thing {
        private final int sheet;
        private final int place;

        Thing(int sheet, int kindOfThing, int number) {
            this.sheet = sheet;
            this.place = (sheet * THING_KINDS + kindOfThing) * MOST_PINS + number;
        }

        final int sheet() {
            return sheet;
        }

        final int number() {
            return place % MOST_PINS;
        }

        /** In the order of things: by sheet, then parts, nets, pins, then by number. */
        final boolean isBefore(Thing other) {
            return other != null && place < other.place;
        }

        /** Tells a remark from all others, and rises in the order of remarks. */
        final int keyWith(int rule) {
            return place * MOST_RULES + rule;
        }

        /** 0, when the built-in rule has no remark about this thing. */
        abstract int builtInWeight(int rule, Schematic schematic);

        /** What a term of a told rule is for this thing; 0, when the term has no place with it. */
        abstract long valueOf(int term, int index);
    }

    private abstract static class PinHolder extends Thing {
        private final int[] pinsOfKind = new int[PIN_KINDS];
        private int pinCount = 0;

        PinHolder(int sheet, int kindOfThing, int number) {
            super(sheet, kindOfThing, number);
        }

        final void countPins(int kind, int more) {
            if (isBelow(kind, pinsOfKind.length)) {
                pinsOfKind[kind] += more;
                pinCount += more;
            }
        }

        final int pinCount() {
            return pinCount;
        }

        final int pinsOfKind(int kind) {
            return isBelow(kind, pinsOfKind.length) ? pinsOfKind[kind] : 0;
        }

        @Override
        final long valueOf(int term, int index) {
            switch (term) {
                case ToldRule.PINS:
                    return pinCount;
                case ToldRule.ANY:
                    return pinsOfKind(index);
                case ToldRule.SHEET:
                    return sheet();
                default:
                    return ownValueOf(term, index);
            }
        }

        /** What a term is that parts and nets do not share. */
        abstract long ownValueOf(int term, int index);
    }

    private static final class Part extends PinHolder {
        private final long[] fields = new long[FIELDS];

        Part(int sheet, int number) {
            super(sheet, PART, number);
        }

        boolean setField(int index, long value) {
            if (!isBelow(index, fields.length)) {
                return false;
            }
            boolean wasAnother = fields[index] != value;
            fields[index] = value;
            return wasAnother;
        }

        long fieldAt(int index) {
            return isBelow(index, fields.length) ? fields[index] : 0;
        }

        @Override
        int builtInWeight(int rule, Schematic schematic) {
            return 0;
        }

        @Override
        long ownValueOf(int term, int index) {
            return term == ToldRule.FIELD ? fieldAt(index) : 0;
        }
    }

    private static final class Net extends PinHolder {
        private static final int GRID = 100;

        private final int name;
        // No call asks for an end itself, so whether one is off the grid is all that is kept of them.
        private boolean hasEndOffGrid = false;

        Net(int sheet, int number, int name) {
            super(sheet, NET, number);
            this.name = name;
        }

        int name() {
            return name;
        }

        void noteEnd(long x, long y) {
            if (x % GRID != 0 || y % GRID != 0) {
                hasEndOffGrid = true;
            }
        }

        @Override
        int builtInWeight(int rule, Schematic schematic) {
            switch (rule) {
                case 2:
                    return pinsOfKind(1) >= 2 ? ERROR : 0;
                case 3:
                    return pinsOfKind(3) > 0 && pinsOfKind(4) == 0 ? ERROR : 0;
                case 4:
                    return pinCount() == 1 ? WARN : 0;
                case 5:
                    return schematic.hasLowerNamesake(this) ? ERROR : 0;
                case 6:
                    return hasEndOffGrid ? WARN : 0;
                default:
                    return 0;
            }
        }

        @Override
        long ownValueOf(int term, int index) {
            return term == ToldRule.NAME ? name : 0;
        }
    }

    private static final class Pin extends Thing {
        private static final int KIND_THAT_NEEDS_NO_NET = 9;

        private final Part part;
        private final int kind;
        private Net net = null;

        Pin(Part part, int number, int kind) {
            super(part.sheet(), PIN, number);
            this.part = part;
            this.kind = kind;
        }

        int kind() {
            return kind;
        }

        Net netOrNull() {
            return net;
        }

        boolean moveTo(Net target) {
            if (net == target) {
                return false;
            }
            if (net != null) {
                net.countPins(kind, -1);
            }
            if (target != null) {
                target.countPins(kind, 1);
            }
            net = target;
            return true;
        }

        @Override
        int builtInWeight(int rule, Schematic schematic) {
            switch (rule) {
                case 0:
                    return net == null && kind != KIND_THAT_NEEDS_NO_NET ? ERROR : 0;
                case 1:
                    return schematic.worstVerdictBelow(this);
                default:
                    return 0;
            }
        }

        @Override
        long valueOf(int term, int index) {
            switch (term) {
                case ToldRule.FIELD:
                    return part.fieldAt(index);
                case ToldRule.KIND:
                    return kind;
                case ToldRule.NAME:
                    return net == null ? NONE : net.name();
                case ToldRule.SHEET:
                    return sheet();
                default:
                    return 0;
            }
        }
    }

    private static final class Schematic {
        private final int[] verdicts = new int[PIN_KINDS * PIN_KINDS];
        private final Part[] parts = new Part[MOST_PARTS];
        private final Net[] nets = new Net[MOST_NETS];
        private final Pin[] pins = new Pin[MOST_PINS];
        private final Thing[] inOrder = new Thing[MOST_PARTS + MOST_NETS + MOST_PINS];
        private int partCount = 0;
        private int netCount = 0;
        private int pinCount = 0;
        private int endCount = 0;

        void wipe() {
            Arrays.fill(verdicts, 0);
            partCount = 0;
            netCount = 0;
            pinCount = 0;
            endCount = 0;
        }

        boolean setVerdict(int kindA, int kindB, int verdict) {
            if (!isBelow(kindA, PIN_KINDS) || !isBelow(kindB, PIN_KINDS)) {
                return false;
            }
            boolean wasAnother = verdictOf(kindA, kindB) != verdict;
            verdicts[kindA * PIN_KINDS + kindB] = verdict;
            verdicts[kindB * PIN_KINDS + kindA] = verdict;
            return wasAnother;
        }

        private int verdictOf(int kindA, int kindB) {
            int index = kindA * PIN_KINDS + kindB;
            return isBelow(index, verdicts.length) ? verdicts[index] : 0;
        }

        int addPart(int sheet) {
            if (partCount >= parts.length) {
                return NONE;
            }
            Part added = new Part(sheet, partCount);
            putInOrder(added);
            parts[partCount] = added;
            partCount++;
            return added.number();
        }

        int addNet(int sheet, int name) {
            if (netCount >= nets.length) {
                return NONE;
            }
            Net added = new Net(sheet, netCount, name);
            putInOrder(added);
            nets[netCount] = added;
            netCount++;
            return added.number();
        }

        int addPin(Part part, Net net, int kind) {
            if (part == null || pinCount >= pins.length) {
                return NONE;
            }
            Pin added = new Pin(part, pinCount, kind);
            part.countPins(kind, 1);
            added.moveTo(net);
            putInOrder(added);
            pins[pinCount] = added;
            pinCount++;
            return added.number();
        }

        boolean addEnd(Net net, long x, long y) {
            if (net == null || endCount >= MOST_ENDS) {
                return false;
            }
            net.noteEnd(x, y);
            endCount++;
            return true;
        }

        Part partAt(int number) {
            return isBelow(number, partCount) && number < parts.length ? parts[number] : null;
        }

        Net netAt(int number) {
            return isBelow(number, netCount) && number < nets.length ? nets[number] : null;
        }

        Pin pinAt(int number) {
            return isBelow(number, pinCount) && number < pins.length ? pins[number] : null;
        }

        Thing thingOf(int kindOfThing, int number) {
            switch (kindOfThing) {
                case PART:
                    return partAt(number);
                case NET:
                    return netAt(number);
                case PIN:
                    return pinAt(number);
                default:
                    return null;
            }
        }

        int thingCount() {
            return partCount + netCount + pinCount;
        }

        Thing thingInOrder(int index) {
            return isBelow(index, thingCount()) && index < inOrder.length ? inOrder[index] : null;
        }

        /** To be called before the thing is counted among its like. */
        private void putInOrder(Thing added) {
            int hole = thingCount();
            if (hole >= inOrder.length) {
                return;
            }
            while (hole > 0 && added.isBefore(inOrder[hole - 1])) {
                inOrder[hole] = inOrder[hole - 1];
                hole--;
            }
            inOrder[hole] = added;
        }

        boolean hasLowerNamesake(Net net) {
            for (int i = 0; i < net.number(); i++) {
                Net lower = netAt(i);
                if (lower != null && lower.name() == net.name()) {
                    return true;
                }
            }
            return false;
        }

        int worstVerdictBelow(Pin pin) {
            Net net = pin.netOrNull();
            if (net == null) {
                return 0;
            }
            int worst = 0;
            for (int i = 0; i < pin.number(); i++) {
                Pin lower = pinAt(i);
                if (lower != null && lower.netOrNull() == net) {
                    worst = Math.max(worst, verdictOf(pin.kind(), lower.kind()));
                }
            }
            return worst;
        }
    }

    /** The letters told so far, and a mark that goes from word to word. */
    private static final class RuleText {
        private static final int LOWEST_LETTER = 32;
        private static final int HIGHEST_LETTER = 126;

        private final char[] letters = new char[MOST_LETTERS];
        private int length = 0;
        private int wordStart = 0;
        private int wordEnd = 0;

        boolean addLetter(int letter) {
            if (letter < LOWEST_LETTER || letter > HIGHEST_LETTER || length >= letters.length) {
                return false;
            }
            letters[length] = (char) letter;
            length++;
            return true;
        }

        void wipe() {
            length = 0;
        }

        void toStart() {
            wordEnd = 0;
        }

        /** False, when there is no word more. */
        boolean toNextWord() {
            int bound = Math.min(length, letters.length);
            int start = Math.max(wordEnd, 0);
            while (start < bound && letters[start] == ' ') {
                start++;
            }
            int end = start;
            while (end < bound && letters[end] != ' ') {
                end++;
            }
            wordStart = start;
            wordEnd = end;
            return end > start;
        }

        boolean wordIs(String word) {
            if (word.length() != wordLength()) {
                return false;
            }
            for (int i = 0; i < word.length(); i++) {
                if (word.charAt(i) != letterOfWord(i)) {
                    return false;
                }
            }
            return true;
        }

        int wordLength() {
            return wordEnd - wordStart;
        }

        /** A space, when the word has no such letter. */
        char letterOfWord(int index) {
            int at = wordStart + index;
            return at >= wordStart && at < wordEnd && at < letters.length ? letters[at] : ' ';
        }

        /** The digit at an index of the word, or NONE. */
        int digitOfWord(int index) {
            char letter = letterOfWord(index);
            return letter >= '0' && letter <= '9' ? letter - '0' : NONE;
        }
    }

    /** Reads a rule's text word by word, and brings its condition into the order in which it is worked out. */
    private static final class RuleReader {
        private static final int MOST_OPEN = 8;
        private static final int MOST_DIGITS = 9;

        private static final int WANTS_SUBJECT = 0;
        private static final int WANTS_WEIGHT = 1;
        private static final int WANTS_CONDITION = 2;
        private static final int WANTS_TERM = 3;
        private static final int WANTS_KIND = 4;
        private static final int AFTER_TERM = 5;
        private static final int AFTER_BRACKETS = 6;

        private final int[] codes = new int[MOST_WORDS];
        private final int[] indexes = new int[MOST_WORDS];
        private final int[] pending = new int[MOST_WORDS];
        private final RuleText text = new RuleText();
        private int codeCount = 0;
        private int pendingCount = 0;
        private int wordsRead = 0;
        private int state = WANTS_SUBJECT;
        private int open = 0;
        private boolean isBehindSign = false;
        private int subject = PART;
        private int weight = WARN;

        boolean addLetter(int letter) {
            return text.addLetter(letter);
        }

        void wipe() {
            text.wipe();
        }

        /** The rule, or null: then wrongWord() tells the word. */
        ToldRule readRule() {
            start();
            boolean isRight = true;
            while (isRight && wordsRead < MOST_WORDS && text.toNextWord()) {
                isRight = takeWord();
                if (isRight) {
                    wordsRead++;
                }
            }
            if (!isRight || open > 0 || !isBehindCondition()) {
                return null;
            }
            putOutDownTo(ToldRule.OR);
            return new ToldRule(subject, weight, Arrays.copyOf(codes, codeCount), Arrays.copyOf(indexes, codeCount));
        }

        int wrongWord() {
            return wordsRead;
        }

        private void start() {
            text.toStart();
            codeCount = 0;
            pendingCount = 0;
            wordsRead = 0;
            state = WANTS_SUBJECT;
            open = 0;
            isBehindSign = false;
        }

        private boolean isBehindCondition() {
            return state == AFTER_BRACKETS || state == AFTER_TERM && isBehindSign;
        }

        /** False, when no rule's text goes on with this word. */
        private boolean takeWord() {
            switch (state) {
                case WANTS_SUBJECT:
                    return takeSubject();
                case WANTS_WEIGHT:
                    return takeWeight();
                case WANTS_CONDITION:
                    return takeNot() || takeOpening() || takeTerm();
                case WANTS_TERM:
                    return takeTerm();
                case WANTS_KIND:
                    return takeKind();
                default:
                    return takeOperator() || takeClosing();
            }
        }

        private boolean takeSubject() {
            if (text.wordIs("part")) {
                subject = PART;
            } else if (text.wordIs("net")) {
                subject = NET;
            } else if (text.wordIs("pin")) {
                subject = PIN;
            } else {
                return false;
            }
            state = WANTS_WEIGHT;
            return true;
        }

        private boolean takeWeight() {
            if (text.wordIs("warn")) {
                weight = WARN;
            } else if (text.wordIs("error")) {
                weight = ERROR;
            } else {
                return false;
            }
            state = WANTS_CONDITION;
            return true;
        }

        private boolean takeNot() {
            if (!text.wordIs("not")) {
                return false;
            }
            putOff(ToldRule.NOT);
            return true;
        }

        private boolean takeOpening() {
            if (!text.wordIs("(") || open >= MOST_OPEN) {
                return false;
            }
            open++;
            putOff(ToldRule.OPENING);
            return true;
        }

        private boolean takeClosing() {
            if (!text.wordIs(")") || open <= 0 || !isBehindCondition()) {
                return false;
            }
            open--;
            putOutDownTo(ToldRule.OR);
            dropOpening();
            state = AFTER_BRACKETS;
            return true;
        }

        private boolean takeTerm() {
            if (takeNumber() || takeField()) {
                return true;
            }
            if (subject != PIN && text.wordIs("any")) {
                state = WANTS_KIND;
                return true;
            }
            int term = plainTerm();
            return term != NONE && putTerm(term, 0);
        }

        private boolean takeNumber() {
            int digits = text.wordLength();
            if (digits > MOST_DIGITS) {
                return false;
            }
            int number = 0;
            for (int i = 0; i < digits; i++) {
                int digit = text.digitOfWord(i);
                if (digit == NONE) {
                    return false;
                }
                number = number * 10 + digit;
            }
            return putTerm(ToldRule.NUMBER, number);
        }

        private boolean takeField() {
            if (subject == NET || text.wordLength() != 2 || text.letterOfWord(0) != 'f') {
                return false;
            }
            int field = text.digitOfWord(1);
            return isBelow(field, FIELDS) && putTerm(ToldRule.FIELD, field);
        }

        private boolean takeKind() {
            int kind = text.digitOfWord(0);
            return text.wordLength() == 1 && kind != NONE && putTerm(ToldRule.ANY, kind);
        }

        /** A term that is a word alone, or NONE. */
        private int plainTerm() {
            if (text.wordIs("sheet")) {
                return ToldRule.SHEET;
            }
            if (subject != PIN && text.wordIs("pins")) {
                return ToldRule.PINS;
            }
            if (subject == PIN && text.wordIs("kind")) {
                return ToldRule.KIND;
            }
            return subject != PART && text.wordIs("name") ? ToldRule.NAME : NONE;
        }

        private boolean putTerm(int term, int index) {
            putOut(term, index);
            state = AFTER_TERM;
            return true;
        }

        /** An operator between two operands; which of them may come depends on what stands before. */
        private boolean takeOperator() {
            int operator = operatorOfWord();
            if (ToldRule.isJoining(operator) && isBehindCondition()) {
                isBehindSign = false;
                state = WANTS_CONDITION;
            } else if (ToldRule.isSign(operator) && state == AFTER_TERM && !isBehindSign) {
                isBehindSign = true;
                state = WANTS_TERM;
            } else if (ToldRule.isArithmetic(operator) && state == AFTER_TERM) {
                state = WANTS_TERM;
            } else {
                return false;
            }
            putOutDownTo(operator);
            putOff(operator);
            return true;
        }

        private int operatorOfWord() {
            if (text.wordLength() == 1) {
                return operatorOfLetter(text.letterOfWord(0));
            }
            if (text.wordIs("or")) {
                return ToldRule.OR;
            }
            if (text.wordIs("and")) {
                return ToldRule.AND;
            }
            if (text.wordIs("<=")) {
                return ToldRule.AT_MOST;
            }
            return text.wordIs(">=") ? ToldRule.AT_LEAST : NONE;
        }

        private static int operatorOfLetter(char letter) {
            switch (letter) {
                case '=':
                    return ToldRule.EQUAL;
                case '#':
                    return ToldRule.OTHER;
                case '<':
                    return ToldRule.LESS;
                case '>':
                    return ToldRule.MORE;
                case '+':
                    return ToldRule.PLUS;
                case '-':
                    return ToldRule.MINUS;
                case '*':
                    return ToldRule.TIMES;
                default:
                    return NONE;
            }
        }

        private void putOff(int operator) {
            if (pendingCount < pending.length) {
                pending[pendingCount] = operator;
                pendingCount++;
            }
        }

        private void putOut(int code, int index) {
            if (codeCount < codes.length && codeCount < indexes.length) {
                codes[codeCount] = code;
                indexes[codeCount] = index;
                codeCount++;
            }
        }

        private void dropOpening() {
            if (pendingCount > 0) {
                pendingCount--;
            }
        }

        /** What binds at least as tightly as this operator, and was told before it, is worked out before it. */
        private void putOutDownTo(int operator) {
            while (pendingCount > 0 && ToldRule.strength(pending[pendingCount - 1]) >= ToldRule.strength(operator)) {
                pendingCount--;
                putOut(pending[pendingCount], 0);
            }
        }
    }

    /** A rule told as words: its condition is a row of codes, each operator behind its operands. */
    private static final class ToldRule {
        static final int OPENING = 0;
        static final int OR = 1;
        static final int AND = 2;
        static final int NOT = 3;
        static final int EQUAL = 4;
        static final int OTHER = 5;
        static final int LESS = 6;
        static final int MORE = 7;
        static final int AT_MOST = 8;
        static final int AT_LEAST = 9;
        static final int PLUS = 10;
        static final int MINUS = 11;
        static final int TIMES = 12;
        static final int NUMBER = 13;
        static final int FIELD = 14;
        static final int PINS = 15;
        static final int KIND = 16;
        static final int NAME = 17;
        static final int SHEET = 18;
        static final int ANY = 19;

        private final int subject;
        private final int weight;
        private final int[] codes;
        private final int[] indexes;

        ToldRule(int subject, int weight, int[] codes, int[] indexes) {
            this.subject = subject;
            this.weight = weight;
            this.codes = codes;
            this.indexes = indexes;
        }

        static boolean isJoining(int code) {
            return code == OR || code == AND;
        }

        static boolean isSign(int code) {
            return code >= EQUAL && code <= AT_LEAST;
        }

        static boolean isArithmetic(int code) {
            return code >= PLUS && code <= TIMES;
        }

        /** How tightly an operator binds; an opening bracket lets none through. */
        static int strength(int operator) {
            if (operator <= NOT) {
                return operator;
            }
            if (isSign(operator)) {
                return EQUAL;
            }
            return operator == TIMES ? TIMES : PLUS;
        }

        int weight() {
            return weight;
        }

        boolean isAbout(Thing thing) {
            return subject == PART && thing instanceof Part
                    || subject == NET && thing instanceof Net
                    || subject == PIN && thing instanceof Pin;
        }

        boolean holdsFor(Thing thing, long[] stack) {
            int height = 0;
            for (int i = 0; i < codes.length && i < indexes.length; i++) {
                int code = codes[i];
                if (code >= NUMBER) {
                    if (height < stack.length) {
                        stack[height] = code == NUMBER ? indexes[i] : thing.valueOf(code, indexes[i]);
                        height++;
                    }
                } else if (code == NOT) {
                    if (height >= 1) {
                        stack[height - 1] = truth(stack[height - 1] == 0);
                    }
                } else if (height >= 2) {
                    height--;
                    stack[height - 1] = workOut(code, stack[height - 1], stack[height]);
                }
            }
            return height == 1 && stack[0] != 0;
        }

        private static long workOut(int operator, long a, long b) {
            switch (operator) {
                case OR:
                    return a | b;
                case AND:
                    return a & b;
                case EQUAL:
                    return truth(a == b);
                case OTHER:
                    return truth(a != b);
                case LESS:
                    return truth(a < b);
                case MORE:
                    return truth(a > b);
                case AT_MOST:
                    return truth(a <= b);
                case AT_LEAST:
                    return truth(a >= b);
                case PLUS:
                    return a + b;
                case MINUS:
                    return a - b;
                default:
                    return a * b;
            }
        }

        private static long truth(boolean holds) {
            return holds ? 1 : 0;
        }
    }

    /** A row of remarks, rising by key; its arrays grow when they must and are used again by later runs. */
    private static final class Remarks {
        private static final int FIRST_ROOM = 32;

        private int[] keys = new int[FIRST_ROOM];
        private int[] weights = new int[FIRST_ROOM];
        private int[] firsts = new int[FIRST_ROOM];
        private int count = 0;

        void wipe() {
            count = 0;
        }

        int count() {
            return count;
        }

        void add(int key, int weight, int first) {
            if (count >= keys.length) {
                grow();
            }
            if (count < keys.length && count < weights.length && count < firsts.length) {
                keys[count] = key;
                weights[count] = weight;
                firsts[count] = first;
                count++;
            }
        }

        private void grow() {
            int room = Math.min(2 * keys.length, MOST_REMARKS);
            if (room > keys.length) {
                keys = Arrays.copyOf(keys, room);
                weights = Arrays.copyOf(weights, room);
                firsts = Arrays.copyOf(firsts, room);
            }
        }

        int keyOf(int k) {
            return isBelow(k, count) && k < keys.length ? keys[k] : NONE;
        }

        int weightOf(int k) {
            return isBelow(k, count) && k < weights.length ? weights[k] : NONE;
        }

        int firstOf(int k) {
            return isBelow(k, count) && k < firsts.length ? firsts[k] : NONE;
        }

        void setFirst(int k, int version) {
            if (isBelow(k, count) && k < firsts.length) {
                firsts[k] = version;
            }
        }
    }

    private static final class Waivers {
        private final int[] keys = new int[MOST_WAIVED];
        private final int[] reasons = new int[MOST_WAIVED];
        private int count = 0;

        void wipe() {
            count = 0;
        }

        int reasonFor(int key) {
            int index = indexOf(key);
            return isBelow(index, reasons.length) ? reasons[index] : NONE;
        }

        /** Whether the reason was another one; NONE takes the waiver away. */
        boolean setReason(int key, int reason) {
            if (reasonFor(key) == reason) {
                return false;
            }
            int index = indexOf(key);
            if (index == NONE) {
                return append(key, reason);
            }
            if (reason == NONE) {
                remove(index);
            } else if (isBelow(index, reasons.length)) {
                reasons[index] = reason;
            }
            return true;
        }

        private int indexOf(int key) {
            for (int i = 0; i < count && i < keys.length; i++) {
                if (keys[i] == key) {
                    return i;
                }
            }
            return NONE;
        }

        private boolean append(int key, int reason) {
            if (count >= keys.length || count >= reasons.length) {
                return false;
            }
            keys[count] = key;
            reasons[count] = reason;
            count++;
            return true;
        }

        /** The last one fills the gap, for waivers have no order of their own. */
        private void remove(int index) {
            int last = count - 1;
            if (isBelow(index, count) && last < keys.length && last < reasons.length) {
                keys[index] = keys[last];
                reasons[index] = reasons[last];
                count = last;
            }
        }
    }
}
