import java.util.Arrays;

/** Small grey boxes on a hill: a school's weather instruments, their lies, and what is right. */
public final class GreyBoxes {
    public static final int NONE = -1;
    public static final int GAP = -100000;

    private static final int DAYS = 60;
    private static final int READERS = 10;
    private static final int TAPE_MOST = 800;
    private static final int RULES_MOST = 500;
    private static final int QUANTITIES = 4;
    private static final int RAIN = 2;
    private static final int WIND = 3;
    private static final int ROUND = 16;
    private static final int[] LEAST = {-20, 0, 0, 0};
    private static final int[] MOST = {40, 100, 99, 15};

    private final byte[] tape;
    private int taped;
    private int faultKind;
    private int faultPlace;
    private final Tokens tokens;
    private final Hill hill;
    private final Hill newHill;
    private final HillText hillText;
    private final Rules rules;
    private final Rules newRules;
    private final RulesText rulesText;
    private final Facts facts;
    private final Known known;
    private final Laws[] laws;
    private final Span span;
    private final Blame blame;
    private final Trial trial;

    public GreyBoxes() {
        tape = new byte[TAPE_MOST];
        faultPlace = NONE;
        tokens = new Tokens(tape);
        hill = new Hill();
        newHill = new Hill();
        hillText = new HillText(tokens, newHill);
        rules = new Rules();
        newRules = new Rules();
        rulesText = new RulesText(tokens, hill, newRules);
        facts = new Facts();
        known = new Known(facts, hill);
        laws = new Laws[Hill.BOXES_MOST];
        for (int box = 0; box < Hill.BOXES_MOST; box++) {
            laws[box] = new Laws(facts, known, hill, box);
        }
        span = new Span(laws, known, hill);
        blame = new Blame(laws, known, hill);
        trial = new Trial(rules, known, hill);
    }

    public int feed(int a, int b, int c, int d, int e) {
        if (taped + 20 > TAPE_MOST) {
            return NONE;
        }
        put(a);
        put(b);
        put(c);
        put(d);
        put(e);
        return taped;
    }

    public int end(int n) {
        if (n < 0 || n > taped) {
            return NONE;
        }
        taped = n;
        return n;
    }

    public int hill() {
        tokens.open(taped, Tokens.HILL_SIGNS);
        hillText.parse();
        closeText();
        if (faultKind != 0) {
            return NONE;
        }
        hill.become(newHill);
        rules.clear();
        facts.clear();
        return hill.boxes + hill.lines;
    }

    public int rules() {
        if (taped > RULES_MOST) {
            return -2;
        }
        tokens.open(taped, Tokens.RULES_SIGNS);
        rulesText.parse();
        closeText();
        if (faultKind != 0) {
            return NONE;
        }
        rules.become(newRules);
        return rules.count;
    }

    public int fault(int what) {
        if (what == 0) {
            return faultKind;
        }
        return what == 1 ? faultPlace : NONE;
    }

    public boolean share(int day, boolean does) {
        return isDay(day) && facts.setShared(day, does);
    }

    public int far(int quantity, int day, int number) {
        if (!isQuantity(quantity) || !isDay(day)) {
            return NONE;
        }
        if (number < LEAST[quantity] || number > MOST[quantity]) {
            return NONE;
        }
        return facts.tell(quantity, day, NONE, number);
    }

    public int read(int box, int day, int reader, int number) {
        if (!isSpot(box, day) || !isReader(reader)) {
            return NONE;
        }
        boolean wind = hill.isWind(box);
        if (number < (wind ? 0 : -999) || number > (wind ? ROUND - 1 : 999)) {
            return NONE;
        }
        return facts.tell(box, day, reader, number);
    }

    public boolean doubt(int reader, boolean is) {
        return isReader(reader) && facts.setDoubted(reader, is);
    }

    public boolean untell(int fact) {
        return facts.takeBack(fact);
    }

    public int later(int by) {
        return facts.goOn(by);
    }

    public int farOf(int quantity, int day, int k) {
        known.at(k);
        return known.distant(quantity, day);
    }

    public int reading(int box, int day, int k) {
        known.at(k);
        return known.number(box, day);
    }

    public int laws(int box, int day, int k) {
        return fitted(box, day, k) ? laws[box].count : NONE;
    }

    public int law(int box, int day, int i, int what, int k) {
        if (!fitted(box, day, k) || i < 0 || i >= laws[box].count) {
            return GAP;
        }
        return Laws.part(laws[box].best[i], what);
    }

    public int misses(int box, int day, int k) {
        return fitted(box, day, k) ? laws[box].fewest : NONE;
    }

    public int shows(int box, int day, int k) {
        return fitted(box, day, k) ? laws[box].byFirst(day) : GAP;
    }

    public int frost(int box, int day, int k) {
        return fitted(box, day, k) ? laws[box].frostDay : NONE;
    }

    public int shown(int box, int day, boolean high, int k) {
        return fitted(box, day, k) ? laws[box].extreme(day, high) : GAP;
    }

    public int wrong(int box, int day, int k) {
        if (!isSpot(box, day)) {
            return NONE;
        }
        known.at(k);
        blame.look(day, day);
        return blame.kindOf(box, day);
    }

    public int habit(int what, int k) {
        if (what != 0 && what != 1) {
            return NONE;
        }
        known.at(k);
        blame.look(0, DAYS - 1);
        int reader = blame.worst();
        return what == 0 || reader == NONE ? reader : blame.bad[reader];
    }

    public int right(int box, int day, boolean high, int k) {
        if (!isSpot(box, day)) {
            return GAP;
        }
        known.at(k);
        span.find(box, day);
        return high ? span.greatest : span.least;
    }

    public int sum(int box, int from, int to, int what, int k) {
        if (!isRange(box, from, to) || what < 0 || what > 2) {
            return GAP;
        }
        known.at(k);
        int low = 0;
        int high = 0;
        int gaps = 0;
        for (int day = from; day <= to; day++) {
            if (span.find(box, day)) {
                low += span.least;
                high += span.greatest;
            } else {
                gaps++;
            }
        }
        if (what == 2) {
            return gaps;
        }
        return what == 0 ? low : high;
    }

    public int sure(int box, int from, int to, int k) {
        if (!isRange(box, from, to)) {
            return NONE;
        }
        known.at(k);
        return span.surest(box, from, to);
    }

    public int lies(int quantity, int day, int k) {
        if (!isQuantity(quantity) || !isDay(day)) {
            return NONE;
        }
        known.at(k);
        return span.liar(quantity, day);
    }

    public int next(int k) {
        known.at(k);
        int best = NONE;
        int most = 0;
        for (int box = 0; box < hill.boxes; box++) {
            laws[box].fit(DAYS - 1);
            if (laws[box].count > most) {
                most = laws[box].count;
                best = box;
            }
        }
        return best;
    }

    public int says(int day, int k) {
        if (!isDay(day)) {
            return NONE;
        }
        known.at(k);
        int rule = trial.ruleFor(day);
        return rule == NONE ? NONE : rules.wet[rule];
    }

    public int tried(int what, int k) {
        if (what < 0 || what > 2) {
            return GAP;
        }
        known.at(k);
        trial.run();
        if (what == 2) {
            return trial.worth();
        }
        return what == 0 ? trial.days : trial.hits;
    }

    public long luck(int part, int k) {
        if (part != 0 && part != 1) {
            return NONE;
        }
        known.at(k);
        trial.run();
        return trial.days == 0 ? NONE : trial.chance(part);
    }

    public int learnt(int box, int what, int k) {
        if (!hill.has(box) || what < 0 || what > 4) {
            return GAP;
        }
        known.at(k);
        return trial.learn(box, what);
    }

    public int rule(int rule, int what, int k) {
        if (rule < 0 || rule >= rules.count || what < 0 || what > 1) {
            return NONE;
        }
        known.at(k);
        trial.run();
        return what == 0 ? trial.daysOf[rule] : trial.hitsOf[rule];
    }

    public int about(int what) {
        switch (what) {
            case 0:
                return hill.boxes;
            case 1:
                return hill.lines;
            case 2:
                return facts.count;
            case 3:
                return facts.time;
            case 4:
                return rules.count;
            case 5:
                return Long.bitCount(facts.shared);
            case 6:
                return taped;
            case 7:
                return facts.doubted;
            default:
                return NONE;
        }
    }

    private void put(int number) {
        for (int shift = 24; shift >= 0; shift -= 8) {
            if (taped < tape.length) {
                tape[taped] = (byte) (number >>> shift);
                taped++;
            }
        }
    }

    private void closeText() {
        taped = 0;
        faultKind = tokens.fault;
        faultPlace = tokens.faultPlace;
    }

    private boolean fitted(int box, int day, int k) {
        if (!isSpot(box, day)) {
            return false;
        }
        known.at(k);
        laws[box].fit(day);
        return true;
    }

    private boolean isSpot(int box, int day) {
        return hill.has(box) && isDay(day);
    }

    private boolean isRange(int box, int from, int to) {
        return hill.has(box) && isDay(from) && isDay(to) && from <= to;
    }

    private static boolean isDay(int day) {
        return day >= 0 && day < DAYS;
    }

    private static boolean isQuantity(int quantity) {
        return quantity >= 0 && quantity < QUANTITIES;
    }

    private static boolean isReader(int reader) {
        return reader >= 0 && reader < READERS;
    }

    /** The TOKENS of a text, one at a time, and the first FAULT that its parser tells. */
    private static final class Tokens {
        static final String HILL_SIGNS = ";-";
        static final String RULES_SIGNS = ";-()<>=+*";
        static final String WORDS = "box warm damp rain wind zero slope lag tire to off moved fresh on broken holiday made if say wet dry last day and or not ";
        static final int END = 0;
        static final int BAD = 1;
        static final int NUMBER = 2;
        static final int NAME = 3;
        // A sign's kind is its byte; the words' kinds begin above all bytes that are signs, in the order of WORDS.
        static final int BOX = 128;
        static final int WARM = 129;
        static final int WIND_WORD = 132;
        static final int ZERO = 133;
        static final int TO = 137;
        static final int OFF = 138;
        static final int MOVED = 139;
        static final int FRESH = 140;
        static final int ON = 141;
        static final int BROKEN = 142;
        static final int HOLIDAY = 143;
        static final int MADE = 144;
        static final int IF = 145;
        static final int SAY = 146;
        static final int WET = 147;
        static final int DRY = 148;
        static final int LAST = 149;
        static final int DAY = 150;
        static final int AND = 151;
        static final int OR = 152;
        static final int NOT = 153;
        static final int WORD_COUNT = 26;

        private final byte[] text;
        private final long[] keys;
        private int length;
        private String signs;
        private int at;
        int kind;
        int place;
        int value;
        long key;
        int fault;
        int faultPlace;

        Tokens(byte[] text) {
            this.text = text;
            signs = HILL_SIGNS;
            keys = new long[WORD_COUNT];
            int word = 0;
            for (int i = 0; i < WORDS.length(); i++) {
                char c = WORDS.charAt(i);
                if (c == ' ') {
                    word++;
                } else if (word < WORD_COUNT) {
                    keys[word] = longer(keys[word], c);
                }
            }
        }

        /** Eight letters fit into a long without two words being alike. */
        private static long longer(long key, int letter) {
            return key * 27 + (letter - 'a' + 1);
        }

        void open(int bytes, String signsOfText) {
            length = Math.min(bytes, text.length);
            signs = signsOfText;
            at = 0;
            fault = 0;
            faultPlace = GreyBoxes.NONE;
            step();
        }

        void step() {
            while (at < length && (text[at] == 32 || text[at] == 10)) {
                at++;
            }
            place = at;
            if (at >= length) {
                kind = END;
                return;
            }
            int c = text[at] & 255;
            if (c >= 'a' && c <= 'z') {
                takeWord();
            } else if (c >= '0' && c <= '9') {
                takeNumber();
            } else {
                kind = signs.indexOf((char) c) >= 0 ? c : BAD;
                at++;
            }
        }

        private void takeWord() {
            key = 0;
            while (at < length && text[at] >= 'a' && text[at] <= 'z') {
                key = longer(key, text[at]);
                at++;
            }
            kind = at - place > 8 ? BAD : kindOfWord();
        }

        private int kindOfWord() {
            for (int i = 0; i < WORD_COUNT; i++) {
                if (keys[i] == key) {
                    return BOX + i;
                }
            }
            return NAME;
        }

        private void takeNumber() {
            value = 0;
            while (at < length && text[at] >= '0' && text[at] <= '9') {
                value = value * 10 + (text[at] - '0');
                at++;
            }
            boolean letterBehind = at < length && text[at] >= 'a' && text[at] <= 'z';
            kind = at - place > 4 || letterBehind ? BAD : NUMBER;
        }

        void take(int wanted) {
            if (kind == wanted) {
                step();
            } else {
                refuse();
            }
        }

        /** The TOKEN at hand can't stand here, or is none. */
        void refuse() {
            fail(kind == BAD ? 1 : 2, place);
        }

        /** After a FAULT the text counts as ended, so that no part of a parser goes on. */
        void fail(int faultKind, int where) {
            if (fault == 0) {
                fault = faultKind;
                faultPlace = where;
            }
            kind = END;
        }
    }

    /** THE HILL: its BOXES with their ranges, and the other lines. */
    private static final class Hill {
        static final int BOXES_MOST = 5;
        static final int LINES_MOST = 16;
        static final int PARTS = 4;
        static final int LAG = 2;

        int boxes;
        int lines;
        final long[] names;
        final int[] quantities;
        final int[] offs;
        final int[] lows;
        final int[] highs;
        final int[] kinds;
        final int[] whose;
        final int[] froms;
        final int[] tos;

        Hill() {
            names = new long[BOXES_MOST];
            quantities = new int[BOXES_MOST];
            offs = new int[BOXES_MOST];
            lows = new int[BOXES_MOST * PARTS];
            highs = new int[BOXES_MOST * PARTS];
            kinds = new int[LINES_MOST];
            whose = new int[LINES_MOST];
            froms = new int[LINES_MOST];
            tos = new int[LINES_MOST];
        }

        void clear() {
            boxes = 0;
            lines = 0;
        }

        void become(Hill other) {
            boxes = other.boxes;
            lines = other.lines;
            System.arraycopy(other.names, 0, names, 0, BOXES_MOST);
            System.arraycopy(other.quantities, 0, quantities, 0, BOXES_MOST);
            System.arraycopy(other.offs, 0, offs, 0, BOXES_MOST);
            System.arraycopy(other.lows, 0, lows, 0, BOXES_MOST * PARTS);
            System.arraycopy(other.highs, 0, highs, 0, BOXES_MOST * PARTS);
            System.arraycopy(other.kinds, 0, kinds, 0, LINES_MOST);
            System.arraycopy(other.whose, 0, whose, 0, LINES_MOST);
            System.arraycopy(other.froms, 0, froms, 0, LINES_MOST);
            System.arraycopy(other.tos, 0, tos, 0, LINES_MOST);
        }

        int find(long name) {
            for (int box = 0; box < boxes; box++) {
                if (names[box] == name) {
                    return box;
                }
            }
            return GreyBoxes.NONE;
        }

        boolean has(int box) {
            return box >= 0 && box < boxes;
        }

        boolean isWind(int box) {
            return quantities[box] == WIND;
        }

        int low(int box, int part) {
            return lows[box * PARTS + part];
        }

        int high(int box, int part) {
            return highs[box * PARTS + part];
        }

        boolean fits(int box, int shows, int number) {
            int apart = Math.abs(number - shows);
            if (isWind(box)) {
                apart = apart % ROUND;
                apart = Math.min(apart, ROUND - apart);
            }
            return apart <= offs[box];
        }

        private boolean isOf(int line, int kind, int box) {
            return kinds[line] == kind && whose[line] == box;
        }

        int firstDay(int box, int day) {
            int first = 0;
            for (int i = 0; i < lines; i++) {
                if (isOf(i, Tokens.MOVED, box) && froms[i] <= day) {
                    first = Math.max(first, froms[i]);
                }
            }
            return first;
        }

        int lastDay(int box, int day) {
            int last = DAYS - 1;
            for (int i = 0; i < lines; i++) {
                if (isOf(i, Tokens.MOVED, box) && froms[i] > day) {
                    last = Math.min(last, froms[i] - 1);
                }
            }
            return last;
        }

        /** A box made fresh ahead of its stretch is not found here: the move is the later one. */
        int age(int box, int day) {
            int since = 0;
            for (int i = 0; i < lines; i++) {
                boolean young = kinds[i] == Tokens.MOVED || kinds[i] == Tokens.FRESH;
                if (young && whose[i] == box && froms[i] <= day) {
                    since = Math.max(since, froms[i]);
                }
            }
            return day - since;
        }

        boolean canRead(int box, int day) {
            return !isWithin(Tokens.HOLIDAY, GreyBoxes.NONE, day) && !isWithin(Tokens.BROKEN, box, day);
        }

        boolean isMade(int day) {
            return isWithin(Tokens.MADE, GreyBoxes.NONE, day);
        }

        private boolean isWithin(int kind, int box, int day) {
            for (int i = 0; i < lines; i++) {
                if (isOf(i, kind, box) && froms[i] <= day && day <= tos[i]) {
                    return true;
                }
            }
            return false;
        }
    }

    /** Makes a HILL of a text. */
    private static final class HillText {
        private static final int[] PART_LEAST = {-5, 8, 0, 0};
        private static final int[] PART_MOST = {5, 12, 2, 3};
        private static final int SLOPE = 1;
        private static final int WIND_SLOPE = 10;
        private static final int OFF_MOST = 9;

        private final Tokens tokens;
        private final Hill hill;

        HillText(Tokens tokens, Hill hill) {
            this.tokens = tokens;
            this.hill = hill;
        }

        void parse() {
            hill.clear();
            for (int n = 0; n < TAPE_MOST && tokens.kind != Tokens.END; n++) {
                int kind = tokens.kind;
                if (kind == Tokens.BOX && hill.boxes < Hill.BOXES_MOST) {
                    boxLine();
                } else if (isOtherLine(kind) && hill.lines < Hill.LINES_MOST) {
                    otherLine(kind);
                } else {
                    tokens.refuse();
                }
            }
        }

        private static boolean isOtherLine(int kind) {
            return kind == Tokens.MOVED || kind == Tokens.FRESH || kind == Tokens.BROKEN
                || kind == Tokens.HOLIDAY || kind == Tokens.MADE;
        }

        private void boxLine() {
            int box = hill.boxes;
            tokens.step();
            newName(box);
            int kind = tokens.kind;
            if (kind < Tokens.WARM || kind > Tokens.WIND_WORD) {
                tokens.refuse();
                return;
            }
            hill.quantities[box] = kind - Tokens.WARM;
            tokens.step();
            for (int part = 0; part < Hill.PARTS; part++) {
                boolean windSlope = part == SLOPE && kind == Tokens.WIND_WORD;
                int least = windSlope ? WIND_SLOPE : PART_LEAST[part];
                int most = windSlope ? WIND_SLOPE : PART_MOST[part];
                tokens.take(Tokens.ZERO + part);
                int low = takeNumber(least, most, part == 0);
                tokens.take(Tokens.TO);
                hill.lows[box * Hill.PARTS + part] = low;
                hill.highs[box * Hill.PARTS + part] = takeNumber(low, most, part == 0);
            }
            tokens.take(Tokens.OFF);
            hill.offs[box] = takeNumber(0, OFF_MOST, false);
            tokens.take(';');
            hill.boxes = box + 1;
        }

        private int takeNumber(int least, int most, boolean signed) {
            int where = tokens.place;
            boolean minus = signed && tokens.kind == '-';
            if (minus) {
                tokens.step();
            }
            if (tokens.kind != Tokens.NUMBER) {
                tokens.refuse();
                return least;
            }
            int number = minus ? -tokens.value : tokens.value;
            if (number < least || number > most) {
                tokens.fail(4, where);
            } else {
                tokens.step();
            }
            return number;
        }

        private void newName(int box) {
            if (tokens.kind != Tokens.NAME) {
                tokens.refuse();
            } else if (hill.find(tokens.key) != GreyBoxes.NONE) {
                tokens.fail(3, tokens.place);
            } else {
                hill.names[box] = tokens.key;
                tokens.step();
            }
        }

        private void otherLine(int kind) {
            int line = hill.lines;
            boolean once = kind == Tokens.MOVED || kind == Tokens.FRESH;
            tokens.step();
            hill.kinds[line] = kind;
            hill.whose[line] = once || kind == Tokens.BROKEN ? oldName() : GreyBoxes.NONE;
            if (once) {
                tokens.take(Tokens.ON);
                hill.froms[line] = takeNumber(1, DAYS - 1, false);
                hill.tos[line] = hill.froms[line];
            } else {
                hill.froms[line] = takeNumber(0, DAYS - 1, false);
                tokens.take(Tokens.TO);
                hill.tos[line] = takeNumber(hill.froms[line], DAYS - 1, false);
            }
            tokens.take(';');
            hill.lines = line + 1;
        }

        private int oldName() {
            int box = GreyBoxes.NONE;
            if (tokens.kind != Tokens.NAME) {
                tokens.refuse();
            } else {
                box = hill.find(tokens.key);
                if (box == GreyBoxes.NONE) {
                    tokens.fail(5, tokens.place);
                } else {
                    tokens.step();
                }
            }
            return box;
        }
    }

    /** RULES, each as a row of steps on a stack; a step is the kind of its TOKEN and a number. */
    private static final class Rules {
        static final int COUNT_MOST = 6;
        static final int UNITS_MOST = 60;
        private static final int SHIFT = 16;
        private static final int MASK = 65535;

        int count;
        final int[] wet;
        private final int[] ends;
        private int size;
        private final int[] steps;
        private final int[] stack;

        Rules() {
            wet = new int[COUNT_MOST];
            ends = new int[COUNT_MOST];
            // Each TOKEN makes one step at most, and each byte one TOKEN.
            steps = new int[RULES_MOST];
            stack = new int[UNITS_MOST];
        }

        void clear() {
            count = 0;
            size = 0;
        }

        void become(Rules other) {
            count = other.count;
            size = other.size;
            System.arraycopy(other.wet, 0, wet, 0, COUNT_MOST);
            System.arraycopy(other.ends, 0, ends, 0, COUNT_MOST);
            System.arraycopy(other.steps, 0, steps, 0, RULES_MOST);
        }

        void addStep(int kind, int number) {
            if (size < RULES_MOST) {
                steps[size] = kind << SHIFT | number;
                size++;
            }
        }

        void close(boolean saysWet) {
            if (count < COUNT_MOST) {
                wet[count] = saysWet ? 1 : 0;
                ends[count] = size;
                count++;
            }
        }

        boolean holds(int rule, int day, Known known) {
            int top = 0;
            for (int i = rule == 0 ? 0 : ends[rule - 1]; i < ends[rule]; i++) {
                int kind = steps[i] >> SHIFT;
                if (isUnit(kind)) {
                    int number = unit(kind, steps[i] & MASK, day, known);
                    if (number == GreyBoxes.GAP || top >= UNITS_MOST) {
                        return false;
                    }
                    stack[top] = number;
                    top++;
                } else if (kind == Tokens.NOT && top > 0) {
                    stack[top - 1] = bit(stack[top - 1] == 0);
                } else if (top > 1) {
                    top--;
                    stack[top - 1] = joined(kind, stack[top - 1], stack[top]);
                }
            }
            return top > 0 && stack[top - 1] != 0;
        }

        private static boolean isUnit(int kind) {
            return kind == Tokens.NUMBER || kind == Tokens.NAME || kind == Tokens.LAST || kind == Tokens.DAY;
        }

        private static int unit(int kind, int number, int day, Known known) {
            switch (kind) {
                case Tokens.NAME:
                    return known.number(number, day);
                case Tokens.LAST:
                    return known.number(number, day - 1);
                case Tokens.DAY:
                    return day;
                default:
                    return number;
            }
        }

        private static int joined(int kind, int a, int b) {
            switch (kind) {
                case '<':
                    return bit(a < b);
                case '>':
                    return bit(a > b);
                case '=':
                    return bit(a == b);
                case '+':
                    return a + b;
                case '-':
                    return a - b;
                case '*':
                    return a * b;
                case Tokens.AND:
                    return bit(a != 0 && b != 0);
                default:
                    return bit(a != 0 || b != 0);
            }
        }

        private static int bit(boolean is) {
            return is ? 1 : 0;
        }
    }

    /** Makes RULES of a text. */
    private static final class RulesText {
        private static final int WITHIN_MOST = 6;

        private final Tokens tokens;
        private final Hill hill;
        private final Rules rules;
        private int units;

        RulesText(Tokens tokens, Hill hill, Rules rules) {
            this.tokens = tokens;
            this.hill = hill;
            this.rules = rules;
        }

        void parse() {
            rules.clear();
            units = 0;
            for (int n = 0; n < RULES_MOST && tokens.kind != Tokens.END; n++) {
                if (tokens.kind != Tokens.IF || rules.count >= Rules.COUNT_MOST) {
                    tokens.refuse();
                } else {
                    oneRule();
                }
            }
        }

        private void oneRule() {
            tokens.step();
            either(0);
            tokens.take(Tokens.SAY);
            boolean wet = tokens.kind == Tokens.WET;
            tokens.take(wet ? Tokens.WET : Tokens.DRY);
            tokens.take(';');
            rules.close(wet);
        }

        private void either(int within) {
            both(within);
            for (int n = 0; n < RULES_MOST && tokens.kind == Tokens.OR; n++) {
                tokens.step();
                both(within);
                rules.addStep(Tokens.OR, 0);
            }
        }

        private void both(int within) {
            one(within);
            for (int n = 0; n < RULES_MOST && tokens.kind == Tokens.AND; n++) {
                tokens.step();
                one(within);
                rules.addStep(Tokens.AND, 0);
            }
        }

        private void one(int within) {
            if (tokens.kind == Tokens.NOT) {
                if (within > WITHIN_MOST) {
                    tokens.refuse();
                    return;
                }
                tokens.step();
                one(within + 1);
                rules.addStep(Tokens.NOT, 0);
                return;
            }
            addition(within);
            int kind = tokens.kind;
            if (kind == '<' || kind == '>' || kind == '=') {
                tokens.step();
                addition(within);
                rules.addStep(kind, 0);
            }
        }

        private void addition(int within) {
            term(within);
            for (int n = 0; n < RULES_MOST && (tokens.kind == '+' || tokens.kind == '-'); n++) {
                int kind = tokens.kind;
                tokens.step();
                term(within);
                rules.addStep(kind, 0);
            }
        }

        private void term(int within) {
            unit(within);
            for (int n = 0; n < RULES_MOST && tokens.kind == '*'; n++) {
                tokens.step();
                unit(within);
                rules.addStep('*', 0);
            }
        }

        private void unit(int within) {
            int kind = tokens.kind;
            if (units >= Rules.UNITS_MOST) {
                tokens.refuse();
                return;
            }
            units++;
            if (kind == Tokens.NUMBER || kind == Tokens.DAY) {
                rules.addStep(kind, kind == Tokens.DAY ? 0 : tokens.value);
                tokens.step();
            } else if (kind == Tokens.NAME) {
                name(kind);
            } else if (kind == Tokens.LAST) {
                tokens.step();
                name(kind);
            } else if (kind == '(' && within <= WITHIN_MOST) {
                tokens.step();
                either(within + 1);
                tokens.take(')');
            } else {
                tokens.refuse();
            }
        }

        private void name(int kind) {
            if (tokens.kind != Tokens.NAME) {
                tokens.refuse();
                return;
            }
            int box = hill.find(tokens.key);
            if (box == GreyBoxes.NONE) {
                tokens.fail(5, tokens.place);
            } else {
                rules.addStep(kind, box);
                tokens.step();
            }
        }
    }

    /** FACTS in the order in which they were TOLD, the TIME, SHARED DAYS and those DOUBTED. */
    private static final class Facts {
        private static final int COUNT_MOST = 300;
        private static final int BY_MOST = 1000;
        private static final int TIME_MOST = 100000;

        int count;
        int time;
        int changes;
        long shared;
        int doubted;
        final int[] subjects;
        final int[] days;
        final int[] readers;
        final int[] numbers;
        private final int[] told;
        private final int[] untold;

        Facts() {
            subjects = new int[COUNT_MOST];
            days = new int[COUNT_MOST];
            readers = new int[COUNT_MOST];
            numbers = new int[COUNT_MOST];
            told = new int[COUNT_MOST];
            untold = new int[COUNT_MOST];
        }

        void clear() {
            count = 0;
            shared = 0;
            doubted = 0;
            changes++;
        }

        /** The subject is a QUANTITY if there is no reader, else a BOX. */
        int tell(int subject, int day, int reader, int number) {
            if (count >= COUNT_MOST) {
                return GreyBoxes.NONE;
            }
            int fact = count;
            subjects[fact] = subject;
            days[fact] = day;
            readers[fact] = reader;
            numbers[fact] = number;
            told[fact] = time;
            untold[fact] = GreyBoxes.NONE;
            count++;
            changes++;
            return fact;
        }

        boolean takeBack(int fact) {
            if (fact < 0 || fact >= count || untold[fact] != GreyBoxes.NONE) {
                return false;
            }
            untold[fact] = time;
            changes++;
            return true;
        }

        int goOn(int by) {
            if (by < 0 || by > BY_MOST || time + by > TIME_MOST) {
                return GreyBoxes.NONE;
            }
            time += by;
            return time;
        }

        boolean isKnown(int fact, int k) {
            return told[fact] <= k && (untold[fact] == GreyBoxes.NONE || untold[fact] > k);
        }

        boolean isShared(int day) {
            return (shared >>> day & 1) == 1;
        }

        boolean setShared(int day, boolean does) {
            if (isShared(day) == does) {
                return false;
            }
            shared ^= 1L << day;
            changes++;
            return true;
        }

        boolean isDoubted(int reader) {
            return (doubted >>> reader & 1) == 1;
        }

        boolean setDoubted(int reader, boolean is) {
            if (isDoubted(reader) == is) {
                return false;
            }
            doubted ^= 1 << reader;
            changes++;
            return true;
        }
    }

    /** What counts AS KNOWN at a TIME, kept until something else is asked for or a FACT changes. */
    private static final class Known {
        private final Facts facts;
        private final Hill hill;
        private final int[] distances;
        private final int[] readings;
        private final int[] readers;
        private int askedAt;
        private int changesSeen;
        int edition;

        Known(Facts facts, Hill hill) {
            this.facts = facts;
            this.hill = hill;
            distances = new int[QUANTITIES * DAYS];
            readings = new int[Hill.BOXES_MOST * DAYS];
            readers = new int[Hill.BOXES_MOST * DAYS];
        }

        void at(int k) {
            if (edition > 0 && k == askedAt && changesSeen == facts.changes) {
                return;
            }
            askedAt = k;
            changesSeen = facts.changes;
            edition++;
            Arrays.fill(distances, GreyBoxes.GAP);
            Arrays.fill(readings, GreyBoxes.GAP);
            Arrays.fill(readers, GreyBoxes.NONE);
            for (int fact = 0; fact < facts.count; fact++) {
                if (facts.isKnown(fact, k)) {
                    enter(fact);
                }
            }
        }

        /** FACTS come in the order in which they were TOLD, so a later one takes an earlier one's place. */
        private void enter(int fact) {
            int subject = facts.subjects[fact];
            int day = facts.days[fact];
            int reader = facts.readers[fact];
            int place = subject * DAYS + day;
            if (reader == GreyBoxes.NONE) {
                distances[place] = facts.numbers[fact];
            } else if (!facts.isDoubted(reader) && hill.canRead(subject, day)) {
                readings[place] = facts.numbers[fact];
                readers[place] = reader;
            }
        }

        int distant(int quantity, int day) {
            boolean can = quantity >= 0 && quantity < QUANTITIES && day >= 0 && day < DAYS;
            return can ? distances[quantity * DAYS + day] : GreyBoxes.GAP;
        }

        int number(int box, int day) {
            boolean can = box >= 0 && box < hill.boxes && day >= 0 && day < DAYS;
            return can ? readings[box * DAYS + day] : GreyBoxes.GAP;
        }

        int readerOf(int box, int day) {
            boolean can = box >= 0 && box < hill.boxes && day >= 0 && day < DAYS;
            return can ? readers[box * DAYS + day] : GreyBoxes.NONE;
        }
    }

    /**
     * THE LAWS of one BOX, of one STRETCH at a time. A LAW is one number that holds its four parts in their order; what
     * is left of it without the zero is its bend.
     */
    private static final class Laws {
        private static final int LAWS_MOST = 660;
        private static final int BENDS_MOST = 60;

        private final Facts facts;
        private final Known known;
        private final Hill hill;
        private final int box;
        private int edition;
        private int first;
        private int last;
        private final int[] bends;
        private final int[] bent;
        private int bendCount;
        private final int[] missesOf;
        final int[] best;
        int count;
        int fewest;
        int frostDay;

        Laws(Facts facts, Known known, Hill hill, int box) {
            this.facts = facts;
            this.known = known;
            this.hill = hill;
            this.box = box;
            bends = new int[BENDS_MOST];
            bent = new int[BENDS_MOST];
            missesOf = new int[LAWS_MOST];
            best = new int[LAWS_MOST];
        }

        static int zeroOf(int law) {
            return law / BENDS_MOST - 5;
        }

        static int slopeOf(int law) {
            return law / 12 % 5 + 8;
        }

        static int lagOf(int law) {
            return law / 4 % 3;
        }

        static int tireOf(int law) {
            return law % 4;
        }

        static int part(int law, int what) {
            switch (what) {
                case 0:
                    return zeroOf(law);
                case 1:
                    return slopeOf(law);
                case 2:
                    return lagOf(law);
                case 3:
                    return tireOf(law);
                default:
                    return GreyBoxes.GAP;
            }
        }

        void fit(int day) {
            if (edition == known.edition && first <= day && day <= last) {
                return;
            }
            edition = known.edition;
            first = hill.firstDay(box, day);
            last = hill.lastDay(box, day);
            listBends();
            Arrays.fill(missesOf, 0);
            frostDay = GreyBoxes.NONE;
            int clean = bendCount * (hill.high(box, 0) - hill.low(box, 0) + 1);
            for (int d = first; d <= last; d++) {
                int number = known.number(box, d);
                if (number != GreyBoxes.GAP && facts.isShared(d)) {
                    clean -= tryDay(d, number);
                    if (clean == 0 && frostDay == GreyBoxes.NONE) {
                        frostDay = d;
                    }
                }
            }
            choose();
        }

        private void listBends() {
            bendCount = 0;
            for (int slope = hill.low(box, 1); slope <= hill.high(box, 1); slope++) {
                for (int lag = hill.low(box, 2); lag <= hill.high(box, 2); lag++) {
                    for (int tire = hill.low(box, 3); tire <= hill.high(box, 3); tire++) {
                        if (bendCount < BENDS_MOST) {
                            bends[bendCount] = (slope - 8) * 12 + lag * 4 + tire;
                            bendCount++;
                        }
                    }
                }
            }
        }

        /** How many laws miss for the first time. What does not hang on the zero is reckoned once for all zeros. */
        private int tryDay(int day, int number) {
            int age = hill.age(box, day);
            for (int i = 0; i < bendCount; i++) {
                bent[i] = withoutZero(bends[i], day, age);
            }
            int fallen = 0;
            int law = 0;
            for (int zero = hill.low(box, 0); zero <= hill.high(box, 0); zero++) {
                for (int i = 0; i < bendCount && law < LAWS_MOST; i++) {
                    if (bent[i] != GreyBoxes.GAP && !hill.fits(box, zero + bent[i], number)) {
                        fallen += missesOf[law] == 0 ? 1 : 0;
                        missesOf[law]++;
                    }
                    law++;
                }
            }
            return fallen;
        }

        private void choose() {
            int size = bendCount * (hill.high(box, 0) - hill.low(box, 0) + 1);
            fewest = DAYS;
            for (int law = 0; law < size && law < LAWS_MOST; law++) {
                fewest = Math.min(fewest, missesOf[law]);
            }
            count = 0;
            int law = 0;
            for (int zero = hill.low(box, 0); zero <= hill.high(box, 0); zero++) {
                for (int i = 0; i < bendCount && law < LAWS_MOST; i++) {
                    if (missesOf[law] == fewest) {
                        best[count] = (zero + 5) * BENDS_MOST + bends[i];
                        count++;
                    }
                    law++;
                }
            }
        }

        private int withoutZero(int law, int day, int age) {
            int distance = known.distant(hill.quantities[box], day - lagOf(law));
            if (distance == GreyBoxes.GAP) {
                return GreyBoxes.GAP;
            }
            return Math.floorDiv(slopeOf(law) * distance, 10) + tireOf(law) * age / 10;
        }

        private int by(int law, int day, int age) {
            int rest = withoutZero(law, day, age);
            if (rest == GreyBoxes.GAP) {
                return GreyBoxes.GAP;
            }
            int shows = zeroOf(law) + rest;
            return hill.isWind(box) ? Math.floorMod(shows, ROUND) : shows;
        }

        int byFirst(int day) {
            return count > 0 ? by(best[0], day, hill.age(box, day)) : GreyBoxes.GAP;
        }

        int extreme(int day, boolean high) {
            int age = hill.age(box, day);
            int found = GreyBoxes.GAP;
            for (int i = 0; i < count; i++) {
                int shows = by(best[i], day, age);
                if (shows != GreyBoxes.GAP) {
                    boolean further = high ? shows > found : shows < found;
                    found = found == GreyBoxes.GAP || further ? shows : found;
                }
            }
            return found;
        }
    }

    /** RIGHT of a BOX on a DAY, and what is told by comparing such spans. */
    private static final class Span {
        private final Laws[] laws;
        private final Known known;
        private final Hill hill;
        private final int[] lows;
        private final int[] highs;
        int least;
        int greatest;

        Span(Laws[] laws, Known known, Hill hill) {
            this.laws = laws;
            this.known = known;
            this.hill = hill;
            lows = new int[DAYS];
            highs = new int[DAYS];
        }

        boolean find(int box, int day) {
            least = GreyBoxes.GAP;
            greatest = GreyBoxes.GAP;
            for (int lag = hill.low(box, Hill.LAG); lag <= hill.high(box, Hill.LAG); lag++) {
                int number = known.number(box, day + lag);
                if (number != GreyBoxes.GAP) {
                    laws[box].fit(day + lag);
                    widen(box, day, lag, number);
                }
            }
            return least != GreyBoxes.GAP;
        }

        private void widen(int box, int day, int lag, int number) {
            int age = hill.age(box, day + lag);
            for (int i = 0; i < laws[box].count; i++) {
                int law = laws[box].best[i];
                if (Laws.lagOf(law) == lag) {
                    int shift = Laws.zeroOf(law) + Laws.tireOf(law) * age / 10;
                    if (hill.isWind(box)) {
                        widenRound(box, shift, number);
                    } else {
                        widenStraight(box, shift, Laws.slopeOf(law), number);
                    }
                }
            }
        }

        private void widenRound(int box, int shift, int number) {
            for (int t = 0; t < ROUND; t++) {
                if (hill.fits(box, Math.floorMod(shift + t, ROUND), number)) {
                    include(t, t);
                }
            }
        }

        /** What a BOX SHOWS never falls while T grows, so that the T which FIT lie side by side. */
        private void widenStraight(int box, int shift, int slope, int number) {
            int quantity = hill.quantities[box];
            int off = hill.offs[box];
            int from = firstReaching(number - off - shift, slope);
            int to = firstReaching(number + off - shift + 1, slope) - 1;
            from = Math.max(from, LEAST[quantity]);
            to = Math.min(to, MOST[quantity]);
            if (from <= to) {
                include(from, to);
            }
        }

        /** The least T by which slope * T / 10, rounded down, is no less than a bound. */
        private static int firstReaching(int bound, int slope) {
            return slope > 0 ? -Math.floorDiv(-10 * bound, slope) : 0;
        }

        private void include(int from, int to) {
            least = least == GreyBoxes.GAP ? from : Math.min(least, from);
            greatest = Math.max(greatest, to);
        }

        int surest(int box, int from, int to) {
            for (int day = from; day <= to; day++) {
                find(box, day);
                lows[day] = least;
                highs[day] = greatest;
            }
            for (int day = from; day <= to; day++) {
                int other = greatestBeside(day, from, to);
                if (lows[day] != GreyBoxes.GAP && other != GreyBoxes.GAP && lows[day] >= other) {
                    return day;
                }
            }
            return GreyBoxes.NONE;
        }

        private int greatestBeside(int day, int from, int to) {
            int most = GreyBoxes.GAP;
            for (int other = from; other <= to; other++) {
                if (other != day) {
                    most = Math.max(most, highs[other]);
                }
            }
            return most;
        }

        int liar(int quantity, int day) {
            for (int box = 0; box < hill.boxes; box++) {
                boolean has = hill.quantities[box] == quantity && find(box, day);
                lows[box] = has ? least : GreyBoxes.GAP;
                highs[box] = has ? greatest : GreyBoxes.GAP;
            }
            for (int box = 0; box < hill.boxes; box++) {
                if (lows[box] != GreyBoxes.GAP && isBesideTwo(box)) {
                    return box;
                }
            }
            return GreyBoxes.NONE;
        }

        private boolean isBesideTwo(int box) {
            for (int a = 0; a < hill.boxes; a++) {
                for (int b = a + 1; b < hill.boxes; b++) {
                    if (isApart(box, a) && isApart(box, b) && !isApart(a, b)) {
                        return true;
                    }
                }
            }
            return false;
        }

        /** A BOX without RIGHT is apart from none, so that it is no liar and no witness. */
        private boolean isApart(int a, int b) {
            boolean both = lows[a] != GreyBoxes.GAP && lows[b] != GreyBoxes.GAP;
            return both && (highs[a] < lows[b] || highs[b] < lows[a]);
        }
    }

    /** Which READINGS are WRONG, how, and by whose HABIT. */
    private static final class Blame {
        private final Laws[] laws;
        private final Known known;
        private final Hill hill;
        private final int[] firstShows;
        private final int[] of;
        final int[] bad;

        Blame(Laws[] laws, Known known, Hill hill) {
            this.laws = laws;
            this.known = known;
            this.hill = hill;
            firstShows = new int[Hill.BOXES_MOST * DAYS];
            of = new int[READERS];
            bad = new int[READERS];
        }

        /** Box by box and day by day, so that the laws of a stretch are found once. */
        void look(int from, int to) {
            for (int box = 0; box < hill.boxes; box++) {
                for (int day = from; day <= to; day++) {
                    int shows = GreyBoxes.GAP;
                    if (known.number(box, day) != GreyBoxes.GAP) {
                        laws[box].fit(day);
                        shows = laws[box].byFirst(day);
                    }
                    firstShows[box * DAYS + day] = shows;
                }
            }
        }

        int kindOf(int box, int day) {
            int number = known.number(box, day);
            int shows = firstShows[box * DAYS + day];
            if (number == GreyBoxes.GAP || shows == GreyBoxes.GAP) {
                return GreyBoxes.NONE;
            }
            if (hill.fits(box, shows, number)) {
                return 0;
            }
            if (hill.isWind(box) && hill.fits(box, shows, number + 8)) {
                return 1;
            }
            if (known.number(box, day - 1) == number) {
                return 2;
            }
            if (isInAnotherRow(box, day, number)) {
                return 3;
            }
            boolean half = hill.quantities[box] == RAIN && number < shows && hill.fits(box, shows, 2 * number);
            return half ? 4 : 5;
        }

        private boolean isInAnotherRow(int box, int day, int number) {
            int here = firstShows[box * DAYS + day];
            for (int other = 0; other < hill.boxes; other++) {
                int there = firstShows[other * DAYS + day];
                int swapped = known.number(other, day);
                boolean both = other != box && there != GreyBoxes.GAP && swapped != GreyBoxes.GAP;
                if (both && hill.fits(box, here, swapped) && hill.fits(other, there, number)) {
                    return true;
                }
            }
            return false;
        }

        int worst() {
            count();
            int worst = GreyBoxes.NONE;
            for (int reader = 0; reader < READERS; reader++) {
                if (of[reader] > 0) {
                    boolean more = worst == GreyBoxes.NONE || bad[reader] * of[worst] > bad[worst] * of[reader];
                    worst = more ? reader : worst;
                }
            }
            return worst;
        }

        private void count() {
            Arrays.fill(of, 0);
            Arrays.fill(bad, 0);
            for (int box = 0; box < hill.boxes; box++) {
                for (int day = 0; day < DAYS; day++) {
                    int kind = kindOf(box, day);
                    int reader = known.readerOf(box, day);
                    if (kind != GreyBoxes.NONE && isReader(reader)) {
                        of[reader]++;
                        bad[reader] += kind > 0 ? 1 : 0;
                    }
                }
            }
        }
    }

    /** RULES TRIED on the DAYS that are not made, and bounds LEARNT on those that are. */
    private static final class Trial {
        private static final int BOUND_LEAST = -50;
        private static final int BOUND_MOST = 110;

        private final Rules rules;
        private final Known known;
        private final Hill hill;
        int days;
        int hits;
        private int wetDays;
        private int wetSaid;
        final int[] daysOf;
        final int[] hitsOf;
        private int size;
        private final int[] numbers;
        private final int[] rains;

        Trial(Rules rules, Known known, Hill hill) {
            this.rules = rules;
            this.known = known;
            this.hill = hill;
            daysOf = new int[Rules.COUNT_MOST];
            hitsOf = new int[Rules.COUNT_MOST];
            numbers = new int[DAYS];
            rains = new int[DAYS];
        }

        int ruleFor(int day) {
            for (int rule = 0; rule < rules.count; rule++) {
                if (rules.holds(rule, day, known)) {
                    return rule;
                }
            }
            return GreyBoxes.NONE;
        }

        void run() {
            days = 0;
            hits = 0;
            wetDays = 0;
            wetSaid = 0;
            Arrays.fill(daysOf, 0);
            Arrays.fill(hitsOf, 0);
            for (int day = 0; day < DAYS; day++) {
                int rain = known.distant(RAIN, day + 1);
                if (rain != GreyBoxes.GAP && !hill.isMade(day)) {
                    tryDay(day, rain > 0 ? 1 : 0);
                }
            }
        }

        private void tryDay(int day, int wet) {
            int rule = ruleFor(day);
            if (rule == GreyBoxes.NONE) {
                return;
            }
            int hit = rules.wet[rule] == wet ? 1 : 0;
            days++;
            hits += hit;
            wetDays += wet;
            wetSaid += rules.wet[rule];
            daysOf[rule]++;
            hitsOf[rule] += hit;
        }

        int worth() {
            return hits - Math.max(wetDays, days - wetDays);
        }

        /** All choices are told apart by how many of the days of which wet was said are chosen. */
        long chance(int part) {
            long every = choices(days, wetDays);
            long good = 0;
            for (int met = 0; met <= wetSaid; met++) {
                int unmet = wetDays - met;
                int drySaid = days - wetSaid;
                if (unmet >= 0 && unmet <= drySaid && met + drySaid - unmet >= hits) {
                    good += choices(wetSaid, met) * choices(drySaid, unmet);
                }
            }
            long shared = commonDivisor(good, every);
            if (shared == 0) {
                return GreyBoxes.NONE;
            }
            return part == 0 ? good / shared : every / shared;
        }

        /** Of 59 days at most: what stands ahead of each division stays below 2 to the 62nd. */
        private static long choices(int n, int chosen) {
            long ways = 1;
            for (int i = 1; i <= chosen; i++) {
                ways = ways * (n - chosen + i) / i;
            }
            return ways;
        }

        private static long commonDivisor(long a, long b) {
            long big = a;
            long small = b;
            for (int n = 0; n < 200 && small != 0; n++) {
                long rest = big % small;
                big = small;
                small = rest;
            }
            return big;
        }

        int learn(int box, int what) {
            gather(box, true);
            if (size == 0) {
                return GreyBoxes.GAP;
            }
            int bestWay = 0;
            int bestBound = BOUND_LEAST;
            int most = GreyBoxes.NONE;
            for (int way = 0; way < 2; way++) {
                for (int bound = BOUND_LEAST; bound <= BOUND_MOST; bound++) {
                    int good = hitsBy(way, bound);
                    if (good > most) {
                        most = good;
                        bestWay = way;
                        bestBound = bound;
                    }
                }
            }
            if (what < 2) {
                return what == 0 ? bestBound : bestWay;
            }
            if (what == 2) {
                return most;
            }
            gather(box, false);
            return what == 3 ? hitsBy(bestWay, bestBound) : size;
        }

        private void gather(int box, boolean made) {
            size = 0;
            for (int day = 0; day < DAYS; day++) {
                int number = known.number(box, day);
                int rain = known.distant(RAIN, day + 1);
                boolean both = number != GreyBoxes.GAP && rain != GreyBoxes.GAP;
                if (both && hill.isMade(day) == made) {
                    numbers[size] = number;
                    rains[size] = rain;
                    size++;
                }
            }
        }

        private int hitsBy(int way, int bound) {
            int good = 0;
            for (int i = 0; i < size; i++) {
                boolean saysWet = way == 0 ? numbers[i] > bound : numbers[i] < bound;
                good += saysWet == rains[i] > 0 ? 1 : 0;
            }
            return good;
        }
    }
}
