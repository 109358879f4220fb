import java.math.BigInteger;
import java.util.ArrayList;
import java.util.Arrays;
import java.util.HashMap;
import java.util.HashSet;
import java.util.List;
import java.util.Map;
import java.util.Set;
import java.util.TreeSet;

/** The document once more, slowly and word by word, to be compared with GreyBoxes on random runs. */
final class Oracle {
    static final int NONE = -1;
    static final int GAP = -100000;
    static final List<String> WORDS = Arrays.asList(("box warm damp rain wind zero to slope lag tire off moved fresh on "
        + "broken holiday made if say wet dry last day and or not").split(" "));
    static final int[][] NUMBERS = {{-20, 40}, {0, 100}, {0, 99}, {0, 15}};

    static final class Fault extends RuntimeException {
        private static final long serialVersionUID = 1L;
        final int kind;
        final int place;

        Fault(int kind, int place) {
            this.kind = kind;
            this.place = place;
        }
    }

    static final class Missing extends RuntimeException {
        private static final long serialVersionUID = 1L;
    }

    record Token(String text, int place) {
        boolean is(String s) {
            return text.equals(s);
        }

        boolean isNumber() {
            return text.matches("[0-9]{1,4}");
        }

        boolean isName() {
            return text.matches("[a-z]{1,8}") && !WORDS.contains(text);
        }

        Fault refused() {
            return new Fault(text.startsWith("?") ? 1 : 2, place);
        }
    }

    record Box(String name, int quantity, int[] low, int[] high, int off) {
    }

    record Line(String kind, int box, int from, int to) {
    }

    record Fact(int subject, int day, int reader, int number, int told, int[] untold) {
    }

    record Law(int zero, int slope, int lag, int tire) {
    }

    interface Term {
        int value(int day, int k);
    }

    record Rule(Term term, boolean wet) {
    }

    List<Box> boxes = new ArrayList<>();
    List<Line> lines = new ArrayList<>();
    List<Rule> rules = new ArrayList<>();
    List<Fact> facts = new ArrayList<>();
    Set<Integer> shared = new TreeSet<>();
    Set<Integer> doubted = new TreeSet<>();
    int time = 0;
    String tape = "";
    int faultKind = 0;
    int faultPlace = NONE;

    // The texts.

    private List<Token> tokens;
    private int at;
    private int units;
    private List<Box> told;

    private static List<Token> split(String text, String signs) {
        List<Token> found = new ArrayList<>();
        int i = 0;
        while (i < text.length()) {
            char c = text.charAt(i);
            int j = i + 1;
            if (c == ' ' || c == '\n') {
                i++;
                continue;
            }
            if (Character.isDigit(c) && c < 128) {
                while (j < text.length() && "0123456789".indexOf(text.charAt(j)) >= 0) {
                    j++;
                }
                boolean behind = j < text.length() && text.substring(j, j + 1).matches("[a-z]");
                found.add(new Token(j - i > 4 || behind ? "?" : text.substring(i, j), i));
            } else if (c >= 'a' && c <= 'z') {
                while (j < text.length() && text.substring(j, j + 1).matches("[a-z]")) {
                    j++;
                }
                found.add(new Token(j - i > 8 ? "?" : text.substring(i, j), i));
            } else {
                found.add(new Token(signs.indexOf(c) >= 0 ? "" + c : "?", i));
            }
            i = j;
        }
        found.add(new Token("", text.length()));
        return found;
    }

    private Token now() {
        return tokens.get(at);
    }

    private boolean ended() {
        return now().is("");
    }

    private Token take(String... wanted) {
        Token t = now();
        if (!Arrays.asList(wanted).contains(t.text)) {
            throw t.refused();
        }
        at++;
        return t;
    }

    private int number(int low, int high, boolean signed) {
        Token first = now();
        int sign = 1;
        if (signed && first.is("-")) {
            sign = -1;
            at++;
        }
        if (!now().isNumber()) {
            throw now().refused();
        }
        int n = sign * Integer.parseInt(now().text);
        if (n < low || n > high) {
            throw new Fault(4, first.place);
        }
        at++;
        return n;
    }

    private int boxOf(String name) {
        for (int i = 0; i < told.size(); i++) {
            if (told.get(i).name.equals(name)) {
                return i;
            }
        }
        return NONE;
    }

    private int oldName() {
        Token t = now();
        if (!t.isName()) {
            throw t.refused();
        }
        if (boxOf(t.text) == NONE) {
            throw new Fault(5, t.place);
        }
        at++;
        return boxOf(t.text);
    }

    private void boxLine() {
        Token name = now();
        if (!name.isName()) {
            throw name.refused();
        }
        if (boxOf(name.text) != NONE) {
            throw new Fault(3, name.place);
        }
        at++;
        int quantity = WORDS.indexOf(take("warm", "damp", "rain", "wind").text) - 1;
        int[] low = new int[4];
        int[] high = new int[4];
        String[] parts = {"zero", "slope", "lag", "tire"};
        int[][] limits = {{-5, 5}, quantity == 3 ? new int[] {10, 10} : new int[] {8, 12}, {0, 2}, {0, 3}};
        for (int i = 0; i < 4; i++) {
            take(parts[i]);
            low[i] = number(limits[i][0], limits[i][1], i == 0);
            take("to");
            high[i] = number(low[i], limits[i][1], i == 0);
        }
        take("off");
        int off = number(0, 9, false);
        take(";");
        told.add(new Box(name.text, quantity, low, high, off));
    }

    int hill() {
        List<Line> newLines = new ArrayList<>();
        told = new ArrayList<>();
        String text = tape;
        tape = "";
        faultKind = 0;
        faultPlace = NONE;
        try {
            tokens = split(text, ";-");
            at = 0;
            while (!ended()) {
                Token t = take("box", "moved", "fresh", "broken", "holiday", "made");
                if (t.is("box") ? told.size() == 5 : newLines.size() == 16) {
                    throw new Fault(2, t.place);
                }
                if (t.is("box")) {
                    boxLine();
                    continue;
                }
                boolean once = t.is("moved") || t.is("fresh");
                int box = once || t.is("broken") ? oldName() : NONE;
                if (once) {
                    take("on");
                }
                int from = number(once ? 1 : 0, 59, false);
                int to = from;
                if (!once) {
                    take("to");
                    to = number(from, 59, false);
                }
                take(";");
                newLines.add(new Line(t.text, box, from, to));
            }
        } catch (Fault f) {
            faultKind = f.kind;
            faultPlace = f.place;
            return NONE;
        }
        forget();
        boxes = told;
        lines = newLines;
        rules = new ArrayList<>();
        facts.clear();
        shared.clear();
        doubted.clear();
        return boxes.size() + lines.size();
    }

    int rules() {
        if (tape.length() > 500) {
            return -2;
        }
        List<Rule> made = new ArrayList<>();
        told = boxes;
        units = 0;
        String text = tape;
        tape = "";
        faultKind = 0;
        faultPlace = NONE;
        try {
            tokens = split(text, ";-()<>=+*");
            at = 0;
            while (!ended()) {
                Token t = take("if");
                if (made.size() == 6) {
                    throw new Fault(2, t.place);
                }
                Term e = either(0);
                take("say");
                boolean wet = take("wet", "dry").is("wet");
                take(";");
                made.add(new Rule(e, wet));
            }
        } catch (Fault f) {
            faultKind = f.kind;
            faultPlace = f.place;
            return NONE;
        }
        rules = made;
        return rules.size();
    }

    private static int bit(boolean b) {
        return b ? 1 : 0;
    }

    private Term joined(String op, Term a, Term b) {
        return (day, k) -> {
            int x = a.value(day, k);
            int y = b.value(day, k);
            switch (op) {
                case "or": return bit(x != 0 || y != 0);
                case "and": return bit(x != 0 && y != 0);
                case "<": return bit(x < y);
                case ">": return bit(x > y);
                case "=": return bit(x == y);
                case "+": return x + y;
                case "-": return x - y;
                default: return x * y;
            }
        };
    }

    private Term either(int within) {
        Term a = both(within);
        while (now().is("or")) {
            a = joined(take("or").text, a, both(within));
        }
        return a;
    }

    private Term both(int within) {
        Term a = one(within);
        while (now().is("and")) {
            a = joined(take("and").text, a, one(within));
        }
        return a;
    }

    private Term one(int within) {
        if (now().is("not")) {
            if (within == 7) {
                throw now().refused();
            }
            at++;
            Term a = one(within + 1);
            return (day, k) -> bit(a.value(day, k) == 0);
        }
        Term a = addition(within);
        if (now().is("<") || now().is(">") || now().is("=")) {
            return joined(take("<", ">", "=").text, a, addition(within));
        }
        return a;
    }

    private Term addition(int within) {
        Term a = term(within);
        while (now().is("+") || now().is("-")) {
            a = joined(take("+", "-").text, a, term(within));
        }
        return a;
    }

    private Term term(int within) {
        Term a = unit(within);
        while (now().is("*")) {
            a = joined(take("*").text, a, unit(within));
        }
        return a;
    }

    private Term asked(int box, int back) {
        return (day, k) -> {
            int r = reading(box, day - back, k);
            if (r == GAP) {
                throw new Missing();
            }
            return r;
        };
    }

    private Term unit(int within) {
        Token t = now();
        if (t.text.startsWith("?")) {
            throw t.refused();
        }
        if (++units > 60) {
            throw new Fault(2, t.place);
        }
        if (t.isNumber()) {
            at++;
            return (day, k) -> Integer.parseInt(t.text);
        }
        if (t.is("day")) {
            at++;
            return (day, k) -> day;
        }
        if (t.is("last")) {
            at++;
            return asked(oldName(), 1);
        }
        if (t.isName()) {
            return asked(oldName(), 0);
        }
        if (t.is("(") && within < 7) {
            at++;
            Term a = either(within + 1);
            take(")");
            return a;
        }
        throw t.refused();
    }

    // What is told.

    int feed(int... numbers) {
        if (tape.length() + 20 > 800) {
            return NONE;
        }
        for (int n : numbers) {
            for (int i = 3; i >= 0; i--) {
                tape += (char) (n >> 8 * i & 255);
            }
        }
        return tape.length();
    }

    int end(int n) {
        if (n < 0 || n > tape.length()) {
            return NONE;
        }
        tape = tape.substring(0, n);
        return n;
    }

    int fault(int what) {
        return what == 0 ? faultKind : what == 1 ? faultPlace : NONE;
    }

    static boolean isDay(int day) {
        return day >= 0 && day <= 59;
    }

    boolean isBox(int box) {
        return box >= 0 && box < boxes.size();
    }

    boolean share(int day, boolean does) {
        forget();
        return isDay(day) && (does ? shared.add(day) : shared.remove(day));
    }

    boolean doubt(int reader, boolean is) {
        forget();
        return reader >= 0 && reader <= 9 && (is ? doubted.add(reader) : doubted.remove(reader));
    }

    int tell(int subject, int day, int reader, int number) {
        forget();
        if (facts.size() == 300) {
            return NONE;
        }
        facts.add(new Fact(subject, day, reader, number, time, new int[] {Integer.MAX_VALUE, 0}));
        return facts.size() - 1;
    }

    int far(int quantity, int day, int number) {
        boolean can = quantity >= 0 && quantity <= 3 && isDay(day)
            && number >= NUMBERS[quantity][0] && number <= NUMBERS[quantity][1];
        return can ? tell(quantity, day, NONE, number) : NONE;
    }

    int read(int box, int day, int reader, int number) {
        if (!isBox(box) || !isDay(day) || reader < 0 || reader > 9) {
            return NONE;
        }
        boolean wind = boxes.get(box).quantity == 3;
        boolean can = wind ? number >= 0 && number <= 15 : number >= -999 && number <= 999;
        return can ? tell(box, day, reader, number) : NONE;
    }

    boolean untell(int fact) {
        forget();
        if (fact < 0 || fact >= facts.size() || facts.get(fact).untold[1] == 1) {
            return false;
        }
        facts.get(fact).untold[0] = time;
        facts.get(fact).untold[1] = 1;
        return true;
    }

    int later(int by) {
        if (by < 0 || by > 1000 || time + by > 100000) {
            return NONE;
        }
        time += by;
        return time;
    }

    private boolean isAmong(String kind, int box, int day) {
        return lines.stream().anyMatch(l -> l.kind.equals(kind) && l.box == box && l.from <= day && day <= l.to);
    }

    /** Kept, for the sake of time, until something changes or another k is asked for. */
    private final Map<Integer, Fact> factKept = new HashMap<>();
    private final Map<Integer, Integer> dayKept = new HashMap<>();
    private final Map<Integer, List<Law>> lawsKept = new HashMap<>();
    private int keptFor = 0;

    private void forget() {
        factKept.clear();
        dayKept.clear();
        lawsKept.clear();
    }

    private void knowAt(int k) {
        if (k != keptFor) {
            forget();
            keptFor = k;
        }
    }

    private Fact counting(boolean far, int subject, int day, int k) {
        knowAt(k);
        int key = ((subject * 2 + bit(far)) * 100) + day;
        boolean can = subject >= 0 && subject < 9 && isDay(day);
        if (can && !factKept.containsKey(key)) {
            factKept.put(key, findCounting(far, subject, day, k));
        }
        return can ? factKept.get(key) : null;
    }

    private Fact findCounting(boolean far, int subject, int day, int k) {
        Fact found = null;
        for (Fact f : facts) {
            boolean known = f.told <= k && !(f.untold[1] == 1 && f.untold[0] <= k);
            boolean same = (f.reader == NONE) == far && f.subject == subject && f.day == day;
            boolean counts = far || !doubted.contains(f.reader)
                && !isAmong("holiday", NONE, day) && !isAmong("broken", subject, day);
            if (known && same && counts) {
                found = f;
            }
        }
        return found;
    }

    int farOf(int quantity, int day, int k) {
        Fact f = counting(true, quantity, day, k);
        return f == null ? GAP : f.number;
    }

    int reading(int box, int day, int k) {
        Fact f = counting(false, box, day, k);
        return f == null ? GAP : f.number;
    }

    // THE LAWS.

    int stretch(int box, int day) {
        return dayKept.computeIfAbsent(box * 100 + day, key -> {
            int first = day;
            while (first > 0 && !isAmong("moved", box, first)) {
                first--;
            }
            return first;
        });
    }

    int age(int box, int day) {
        int first = stretch(box, day);
        return dayKept.computeIfAbsent(1000 + box * 100 + day, key -> {
            int d = day;
            while (d > first && !isAmong("fresh", box, d)) {
                d--;
            }
            return day - d;
        });
    }

    List<Law> every(int box) {
        Box b = boxes.get(box);
        List<Law> laws = new ArrayList<>();
        for (int zero = b.low[0]; zero <= b.high[0]; zero++) {
            for (int slope = b.low[1]; slope <= b.high[1]; slope++) {
                for (int lag = b.low[2]; lag <= b.high[2]; lag++) {
                    for (int tire = b.low[3]; tire <= b.high[3]; tire++) {
                        laws.add(new Law(zero, slope, lag, tire));
                    }
                }
            }
        }
        return laws;
    }

    int shownWith(int box, Law law, int day, int t) {
        int s = law.zero + Math.floorDiv(law.slope * t, 10) + Math.floorDiv(law.tire * age(box, day), 10);
        return boxes.get(box).quantity == 3 ? Math.floorMod(s, 16) : s;
    }

    int shownBy(int box, Law law, int day, int k) {
        int t = farOf(boxes.get(box).quantity, day - law.lag, k);
        return t == GAP ? GAP : shownWith(box, law, day, t);
    }

    boolean fits(int box, int shows, int number) {
        if (boxes.get(box).quantity != 3) {
            return Math.abs(shows - number) <= boxes.get(box).off;
        }
        for (int step = 0; step <= boxes.get(box).off; step++) {
            if (Math.floorMod(shows + step - number, 16) == 0 || Math.floorMod(shows - step - number, 16) == 0) {
                return true;
            }
        }
        return false;
    }

    int missesUpTo(int box, Law law, int stretch, int last, int k) {
        int n = 0;
        for (int d = stretch; d <= last && stretch(box, d) == stretch; d++) {
            int r = reading(box, d, k);
            int s = shownBy(box, law, d, k);
            n += shared.contains(d) && r != GAP && s != GAP && !fits(box, s, r) ? 1 : 0;
        }
        return n;
    }

    List<Law> theLaws(int box, int day, int k) {
        knowAt(k);
        int key = box * 100 + stretch(box, day);
        if (!lawsKept.containsKey(key)) {
            lawsKept.put(key, findLaws(box, day, k));
        }
        return lawsKept.get(key);
    }

    private List<Law> findLaws(int box, int day, int k) {
        int fewest = Integer.MAX_VALUE;
        List<Law> best = new ArrayList<>();
        for (Law law : every(box)) {
            int n = missesUpTo(box, law, stretch(box, day), 59, k);
            if (n < fewest) {
                fewest = n;
                best.clear();
            }
            if (n == fewest) {
                best.add(law);
            }
        }
        return best;
    }

    int laws(int box, int day, int k) {
        return isBox(box) && isDay(day) ? theLaws(box, day, k).size() : NONE;
    }

    int law(int box, int day, int i, int what, int k) {
        if (!isBox(box) || !isDay(day) || i < 0 || i >= theLaws(box, day, k).size()) {
            return GAP;
        }
        Law law = theLaws(box, day, k).get(i);
        return what == 0 ? law.zero : what == 1 ? law.slope : what == 2 ? law.lag : what == 3 ? law.tire : GAP;
    }

    int misses(int box, int day, int k) {
        return isBox(box) && isDay(day)
            ? missesUpTo(box, theLaws(box, day, k).get(0), stretch(box, day), 59, k) : NONE;
    }

    int shows(int box, int day, int k) {
        return isBox(box) && isDay(day) ? shownBy(box, theLaws(box, day, k).get(0), day, k) : GAP;
    }

    int frost(int box, int day, int k) {
        if (!isBox(box) || !isDay(day)) {
            return NONE;
        }
        int s = stretch(box, day);
        for (int x = s; x <= 59 && stretch(box, x) == s; x++) {
            boolean clean = false;
            for (Law law : every(box)) {
                clean |= missesUpTo(box, law, s, x, k) == 0;
            }
            if (!clean) {
                return x;
            }
        }
        return NONE;
    }

    private static int end(TreeSet<Integer> found, boolean high) {
        return found.isEmpty() ? GAP : high ? found.last() : found.first();
    }

    int shown(int box, int day, boolean high, int k) {
        TreeSet<Integer> found = new TreeSet<>();
        if (isBox(box) && isDay(day)) {
            for (Law law : theLaws(box, day, k)) {
                found.add(shownBy(box, law, day, k));
            }
        }
        found.remove(GAP);
        return end(found, high);
    }

    // WRONG, RIGHT and what comes of them.

    int wrong(int box, int day, int k) {
        int r = reading(box, day, k);
        if (!isBox(box) || !isDay(day) || r == GAP) {
            return NONE;
        }
        int s = shows(box, day, k);
        if (s == GAP) {
            return NONE;
        }
        if (fits(box, s, r)) {
            return 0;
        }
        int quantity = boxes.get(box).quantity;
        if (quantity == 3 && fits(box, s, r + 8)) {
            return 1;
        }
        if (reading(box, day - 1, k) == r) {
            return 2;
        }
        for (int other = 0; other < boxes.size(); other++) {
            int there = reading(other, day, k);
            if (other != box && there != GAP && fits(box, s, there)) {
                int showsThere = shows(other, day, k);
                if (showsThere != GAP && fits(other, showsThere, r)) {
                    return 3;
                }
            }
        }
        return quantity == 2 && r < s && fits(box, s, r + r) ? 4 : 5;
    }

    int habit(int what, int k) {
        if (what != 0 && what != 1) {
            return NONE;
        }
        int[] all = new int[10];
        int[] bad = new int[10];
        for (int box = 0; box < boxes.size(); box++) {
            for (int day = 0; day < 60; day++) {
                int w = wrong(box, day, k);
                if (w != NONE) {
                    int reader = counting(false, box, day, k).reader;
                    all[reader]++;
                    bad[reader] += bit(w != 0);
                }
            }
        }
        int best = NONE;
        for (int r = 9; r >= 0; r--) {
            if (all[r] > 0 && (best == NONE || bad[r] * all[best] >= bad[best] * all[r])) {
                best = r;
            }
        }
        return best == NONE ? NONE : what == 0 ? best : bad[best];
    }

    TreeSet<Integer> rights(int box, int day, int k) {
        TreeSet<Integer> found = new TreeSet<>();
        int[] range = NUMBERS[boxes.get(box).quantity];
        for (int y = day; y < 60 && y <= day + 2; y++) {
            int r = reading(box, y, k);
            if (r == GAP) {
                continue;
            }
            for (Law law : theLaws(box, y, k)) {
                for (int t = range[0]; day + law.lag == y && t <= range[1]; t++) {
                    if (fits(box, shownWith(box, law, y, t), r)) {
                        found.add(t);
                    }
                }
            }
        }
        return found;
    }

    int right(int box, int day, boolean high, int k) {
        return isBox(box) && isDay(day) ? end(rights(box, day, k), high) : GAP;
    }

    int sum(int box, int from, int to, int what, int k) {
        if (!isBox(box) || !isDay(from) || !isDay(to) || from > to || what < 0 || what > 2) {
            return GAP;
        }
        int[] sums = new int[3];
        for (int day = from; day <= to; day++) {
            TreeSet<Integer> found = rights(box, day, k);
            sums[0] += found.isEmpty() ? 0 : found.first();
            sums[1] += found.isEmpty() ? 0 : found.last();
            sums[2] += bit(found.isEmpty());
        }
        return sums[what];
    }

    int sure(int box, int from, int to, int k) {
        if (!isBox(box) || !isDay(from) || !isDay(to) || from > to) {
            return NONE;
        }
        List<TreeSet<Integer>> found = new ArrayList<>();
        for (int day = 0; day < 60; day++) {
            found.add(rights(box, day, k));
        }
        for (int day = from; day <= to; day++) {
            boolean any = false;
            boolean best = !found.get(day).isEmpty();
            for (int other = from; other <= to; other++) {
                if (other != day && !found.get(other).isEmpty()) {
                    any = true;
                    best = best && found.get(day).first() >= found.get(other).last();
                }
            }
            if (best && any) {
                return day;
            }
        }
        return NONE;
    }

    private boolean meet(TreeSet<Integer> a, TreeSet<Integer> b) {
        Set<Integer> hull = new HashSet<>();
        for (int n = a.first(); n <= a.last(); n++) {
            hull.add(n);
        }
        for (int n = b.first(); n <= b.last(); n++) {
            if (hull.contains(n)) {
                return true;
            }
        }
        return false;
    }

    int lies(int quantity, int day, int k) {
        if (quantity < 0 || quantity > 3 || !isDay(day)) {
            return NONE;
        }
        List<Integer> who = new ArrayList<>();
        for (int box = 0; box < boxes.size(); box++) {
            if (boxes.get(box).quantity == quantity && !rights(box, day, k).isEmpty()) {
                who.add(box);
            }
        }
        for (int a : who) {
            for (int b : who) {
                for (int c : who) {
                    if (a != b && b != c && a != c && meet(rights(b, day, k), rights(c, day, k))
                        && !meet(rights(a, day, k), rights(b, day, k))
                        && !meet(rights(a, day, k), rights(c, day, k))) {
                        return a;
                    }
                }
            }
        }
        return NONE;
    }

    int next(int k) {
        int best = NONE;
        for (int box = boxes.size() - 1; box >= 0; box--) {
            if (best == NONE || laws(box, 59, k) >= laws(best, 59, k)) {
                best = box;
            }
        }
        return best;
    }

    // RULES.

    int ruleFor(int day, int k) {
        for (int i = 0; i < rules.size(); i++) {
            try {
                if (rules.get(i).term.value(day, k) != 0) {
                    return i;
                }
            } catch (Missing m) {
                continue;
            }
        }
        return NONE;
    }

    int says(int day, int k) {
        int rule = isDay(day) ? ruleFor(day, k) : NONE;
        return rule == NONE ? NONE : bit(rules.get(rule).wet);
    }

    List<Integer> triedDays(int k) {
        List<Integer> days = new ArrayList<>();
        for (int day = 0; day < 60; day++) {
            if (!isAmong("made", NONE, day) && farOf(2, day + 1, k) != GAP && says(day, k) != NONE) {
                days.add(day);
            }
        }
        return days;
    }

    boolean isWet(int day, int k) {
        return farOf(2, day + 1, k) > 0;
    }

    int tried(int what, int k) {
        int good = 0;
        int wet = 0;
        List<Integer> days = triedDays(k);
        for (int day : days) {
            good += bit(says(day, k) == bit(isWet(day, k)));
            wet += bit(isWet(day, k));
        }
        return what == 0 ? days.size() : what == 1 ? good
            : what == 2 ? good - Math.max(wet, days.size() - wet) : GAP;
    }

    /** Counts the choices day by day: how many are chosen so far, and how many right. */
    long luck(int part, int k) {
        List<Integer> days = triedDays(k);
        int n = days.size();
        if (part != 0 && part != 1 || n == 0) {
            return NONE;
        }
        int wet = 0;
        BigInteger[][] ways = new BigInteger[n + 2][n + 2];
        for (BigInteger[] row : ways) {
            Arrays.fill(row, BigInteger.ZERO);
        }
        ways[0][0] = BigInteger.ONE;
        for (int day : days) {
            wet += bit(isWet(day, k));
            int said = says(day, k);
            BigInteger[][] more = new BigInteger[n + 2][n + 2];
            for (int c = 0; c < n + 2; c++) {
                for (int g = 0; g < n + 2; g++) {
                    BigInteger chosen = c > 0 && g >= said ? ways[c - 1][g - said] : BigInteger.ZERO;
                    BigInteger left = g >= 1 - said ? ways[c][g - (1 - said)] : BigInteger.ZERO;
                    more[c][g] = chosen.add(left);
                }
            }
            ways = more;
        }
        BigInteger good = BigInteger.ZERO;
        BigInteger all = BigInteger.ZERO;
        for (int g = 0; g < n + 2; g++) {
            all = all.add(ways[wet][g]);
            good = g >= tried(1, k) ? good.add(ways[wet][g]) : good;
        }
        return (part == 0 ? good : all).divide(good.gcd(all)).longValueExact();
    }

    int learnt(int box, int what, int k) {
        if (!isBox(box) || what < 0 || what > 4) {
            return GAP;
        }
        int most = -1;
        int[] found = new int[5];
        for (int way = 0; way < 2; way++) {
            for (int c = -50; c <= 110; c++) {
                int[] n = new int[4];
                for (int day = 0; day < 60; day++) {
                    int r = reading(box, day, k);
                    if (r != GAP && farOf(2, day + 1, k) != GAP) {
                        int made = bit(isAmong("made", NONE, day));
                        n[made]++;
                        n[2 + made] += bit((way == 0 ? r > c : r < c) == isWet(day, k));
                    }
                }
                if (n[1] == 0) {
                    return GAP;
                }
                if (n[3] > most) {
                    most = n[3];
                    found = new int[] {c, way, n[3], n[2], n[0]};
                }
            }
        }
        return found[what];
    }

    int rule(int rule, int what, int k) {
        if (rule < 0 || rule >= rules.size() || what != 0 && what != 1) {
            return NONE;
        }
        int n = 0;
        for (int day : triedDays(k)) {
            n += bit(ruleFor(day, k) == rule && (what == 0 || rules.get(rule).wet == isWet(day, k)));
        }
        return n;
    }

    int about(int what) {
        int bits = 0;
        for (int r : doubted) {
            bits |= 1 << r;
        }
        int[] all = {boxes.size(), lines.size(), facts.size(), time, rules.size(), shared.size(), tape.length(), bits};
        return what >= 0 && what < all.length ? all[what] : NONE;
    }
}
