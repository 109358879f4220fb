import java.util.Random;

/** Random runs, the same each time, in which GreyBoxes and the Oracle must answer alike. */
public final class RandomRunsTest {
    private static final String[] KINDS = {"warm", "damp", "rain", "wind"};
    private static final String[] NAMES = {"a", "b", "xx", "tower", "oldshed", "abcdefgh"};
    private static final String GLITCHES = "abz059;-()<>=+* \n$A";

    private final Random random;
    private final int run;
    private GreyBoxes x = new GreyBoxes();
    private Oracle o = new Oracle();
    private int calls = 0;
    private int lastDay = 59;

    private RandomRunsTest(int run) {
        this.run = run;
        random = new Random(run);
    }

    private int upTo(int n) {
        return random.nextInt(n + 1);
    }

    private int from(int low, int high) {
        return low + random.nextInt(high - low + 1);
    }

    private boolean once(int n) {
        return random.nextInt(n) == 0;
    }

    private void due(String call, long got, long want) {
        calls++;
        Check.due("run " + run + ", call " + calls + ": " + call, got, want);
    }

    private void due(String call, boolean got, boolean want) {
        due(call, got ? 1 : 0, want ? 1 : 0);
    }

    private String range(int low, int high) {
        int a = from(low, high);
        int b = once(3) ? a : from(a, high);
        return a + " to " + b;
    }

    private String boxLine(int i, boolean wide) {
        String kind = KINDS[once(2) ? upTo(3) : run % 4];
        String slope = kind.equals("wind") ? "10 to 10" : wide ? range(8, 12) : "10 to 10";
        String zero = wide ? range(-5, 5) : "0 to 0";
        return "box " + NAMES[i] + " " + kind + " zero " + zero + " slope " + slope + " lag "
            + (once(2) ? "0 to 0" : range(0, 2)) + " tire " + (once(2) ? "0 to 0" : range(0, 3)) + " off " + upTo(once(8) ? 9 : 2) + ";";
    }

    private String otherLine(int boxes) {
        String name = NAMES[upTo(boxes)];
        switch (upTo(4)) {
            case 0: return "moved " + name + " on " + from(1, lastDay) + ";";
            case 1: return "fresh " + name + " on " + from(1, lastDay) + ";";
            case 2: return "broken " + name + " " + span(4) + ";";
            case 3: return "holiday " + span(3) + ";";
            default: return "made " + span(20) + ";";
        }
    }

    private String span(int most) {
        int a = upTo(lastDay);
        return a + " to " + Math.min(59, a + upTo(most));
    }

    private String hillText() {
        StringBuilder text = new StringBuilder();
        int boxes = once(6) ? upTo(6) : from(2, 5);
        for (int i = 0; i < boxes; i++) {
            text.append(boxLine(i % NAMES.length, once(2)));
        }
        int others = once(8) ? upTo(18) : upTo(5);
        for (int i = 0; i < others; i++) {
            text.append(once(3) ? "\n" : "").append(otherLine(Math.max(0, Math.min(boxes, 5) - 1)));
        }
        return text.toString();
    }

    private String either(int depth) {
        StringBuilder text = new StringBuilder(one(depth));
        for (int n = upTo(2) * upTo(1); n > 0; n--) {
            text.append(once(2) ? " and " : " or ").append(one(depth));
        }
        return text.toString();
    }

    private String one(int depth) {
        if (depth > 0 && once(5)) {
            return "not " + one(depth - 1);
        }
        String a = addition(depth);
        return once(3) ? a : a + "<>=".charAt(upTo(2)) + addition(depth);
    }

    private String addition(int depth) {
        String a = unit(depth);
        while (once(3)) {
            a += "+-*".charAt(upTo(2)) + unit(depth);
        }
        return a;
    }

    private String unit(int depth) {
        int boxes = Math.max(1, o.boxes.size());
        String name = o.boxes.isEmpty() ? "a" : o.boxes.get(upTo(boxes - 1)).name();
        switch (upTo(6)) {
            case 0: return "" + upTo(99);
            case 1: return "" + upTo(once(5) ? 9999 : 20);
            case 2: return "day";
            case 3: return "last " + name;
            case 4: return depth > 0 ? "(" + either(depth - 1) + ")" : "0";
            default: return name;
        }
    }

    private String rulesText() {
        StringBuilder text = new StringBuilder();
        for (int n = from(1, once(9) ? 8 : 3); n > 0; n--) {
            text.append("if ").append(once(4) ? "day*" + upTo(99) + "<2000" : either(once(9) ? 8 : 3)).append(once(2) ? " say wet;" : " say dry;");
        }
        return text.toString();
    }

    private String glitched(String text) {
        StringBuilder made = new StringBuilder(text);
        for (int n = from(1, 2); n > 0 && made.length() > 0; n--) {
            int at = upTo(made.length() - 1);
            char c = GLITCHES.charAt(upTo(GLITCHES.length() - 1));
            switch (upTo(3)) {
                case 0: made.deleteCharAt(at); break;
                case 1: made.insert(at, c); break;
                case 2: made.setCharAt(at, c); break;
                default: made.setLength(at); break;
            }
        }
        return made.toString();
    }

    private void tape(String text) {
        String kept = text.length() > 800 ? text.substring(0, 800) : text;
        byte[] bytes = kept.getBytes(java.nio.charset.StandardCharsets.ISO_8859_1);
        for (int i = 0; i < bytes.length; i += 20) {
            int[] w = new int[5];
            for (int j = 0; j < 5; j++) {
                w[j] = Check.word(bytes, i + 4 * j);
            }
            due("feed", x.feed(w[0], w[1], w[2], w[3], w[4]), o.feed(w));
        }
        due("end", x.end(bytes.length), o.end(bytes.length));
    }

    private void text(boolean isHill, String text) {
        tape(text);
        if (isHill) {
            due("hill() of " + text, x.hill(), o.hill());
        } else {
            due("rules() of " + text, x.rules(), o.rules());
        }
        due("fault(0) of " + text, x.fault(0), o.fault(0));
        due("fault(1) of " + text, x.fault(1), o.fault(1));
    }

    private int day() {
        return once(60) ? from(-2, 61) : upTo(lastDay);
    }

    private int box() {
        return once(40) ? from(-1, 5) : upTo(Math.max(0, o.boxes.size() - 1));
    }

    /** Mostly near to what the box would show, so that laws are worth finding. */
    private void tellReading() {
        int box = box();
        int day = day();
        int number = from(-3, 30);
        if (o.isBox(box) && Oracle.isDay(day)) {
            Oracle.Law law = o.every(box).get(upTo(o.every(box).size() - 1) * upTo(1));
            int shows = o.shownBy(box, law, day, o.time);
            number = shows == Oracle.GAP ? number : shows;
            number = once(4) ? from(number - 3, number + 3) : number;
            number = once(9) ? o.reading(box, day - 1, o.time) : once(9) ? number / 2 : number;
            number = o.boxes.get(box).quantity() == 3 && !once(20) ? Math.floorMod(once(6) ? number + 8 : number, 16) : number;
        }
        int reader = once(50) ? from(-1, 10) : upTo(9) * upTo(1);
        due("read", x.read(box, day, reader, number), o.read(box, day, reader, number));
    }

    private void tellFar() {
        int quantity = once(40) ? from(-1, 4) : once(3) || o.boxes.isEmpty() ? 2 : o.boxes.get(upTo(o.boxes.size() - 1)).quantity();
        int day = day();
        int number = once(30) ? from(-30, 120) : once(3) ? 0 : quantity == 0 ? from(-20, 40) : upTo(once(3) ? 60 : 15);
        due("far", x.far(quantity, day, number), o.far(quantity, day, number));
    }

    private void tell() {
        int day = day();
        boolean yes = !once(4);
        switch (upTo(11)) {
            case 0: case 1: case 2: tellFar(); break;
            case 3: case 4: case 5: case 6: tellReading(); break;
            case 7: case 8: due("share", x.share(day, yes), o.share(day, yes)); break;
            case 9:
                int fact = once(3) ? from(-1, o.facts.size()) : upTo(Math.max(0, o.facts.size() - 1));
                if (once(3)) {
                    due("untell", x.untell(fact), o.untell(fact));
                }
                break;
            case 10:
                int by = once(20) ? from(-1, 1001) : upTo(2);
                due("later", x.later(by), o.later(by));
                break;
            default:
                int reader = from(-1, 10);
                if (once(3)) {
                    due("doubt", x.doubt(reader, !yes), o.doubt(reader, !yes));
                }
                break;
        }
    }

    private void ask() {
        int k = once(3) ? from(-1, o.time + 1) : o.time;
        int box = box();
        int day = day();
        int to = once(5) ? day() : day + upTo(8);
        int q = once(30) ? from(-1, 4) : o.boxes.isEmpty() ? 0 : o.boxes.get(upTo(o.boxes.size() - 1)).quantity();
        int what = from(-1, 8);
        int i = once(5) ? from(-1, 700) : upTo(3);
        boolean high = once(2);
        String with = " box " + box + " day " + day + " to " + to + " q " + q + " what " + what + " i " + i + " high " + high + " k " + k;
        due("farOf" + with, x.farOf(q, day, k), o.farOf(q, day, k));
        due("reading" + with, x.reading(box, day, k), o.reading(box, day, k));
        due("laws" + with, x.laws(box, day, k), o.laws(box, day, k));
        due("law" + with, x.law(box, day, i, what % 5, k), o.law(box, day, i, what % 5, k));
        due("misses" + with, x.misses(box, day, k), o.misses(box, day, k));
        due("shows" + with, x.shows(box, day, k), o.shows(box, day, k));
        due("frost" + with, x.frost(box, day, k), o.frost(box, day, k));
        due("shown" + with, x.shown(box, day, high, k), o.shown(box, day, high, k));
        due("wrong" + with, x.wrong(box, day, k), o.wrong(box, day, k));
        due("habit" + with, x.habit(what % 3, k), o.habit(what % 3, k));
        due("right" + with, x.right(box, day, high, k), o.right(box, day, high, k));
        due("sum" + with, x.sum(box, day, to, what % 4, k), o.sum(box, day, to, what % 4, k));
        due("sure" + with, x.sure(box, day, to, k), o.sure(box, day, to, k));
        due("lies" + with, x.lies(q, day, k), o.lies(q, day, k));
        due("next" + with, x.next(k), o.next(k));
        due("says" + with, x.says(day, k), o.says(day, k));
        due("tried" + with, x.tried(what % 4, k), o.tried(what % 4, k));
        due("luck" + with, x.luck(what % 3, k), o.luck(what % 3, k));
        due("learnt" + with, x.learnt(box, what % 6, k), o.learnt(box, what % 6, k));
        due("rule" + with, x.rule(i, what % 3, k), o.rule(i, what % 3, k));
        due("about" + with, x.about(what), o.about(what));
    }

    private void go() {
        lastDay = once(4) ? 59 : from(3, 20);
        while (once(2)) {
            text(true, glitched(hillText()));
        }
        while (o.boxes.isEmpty()) {
            text(true, hillText());
        }
        while (once(2)) {
            text(false, glitched(rulesText()));
        }
        text(false, rulesText());
        for (int day = 1; day <= lastDay && once(3) == false && run % 3 == 0; day++) {
            int rain = once(2) ? 0 : upTo(20);
            due("far", x.far(2, day, rain), o.far(2, day, rain));
        }
        for (int n = from(1, run % 5 == 0 ? 400 : 120); n > 0; n--) {
            tell();
        }
        for (int n = from(1, 8); n > 0; n--) {
            ask();
            tell();
        }
        ask();
    }

    public static void main(String[] args) {
        int runs = args.length > 0 ? Integer.parseInt(args[0]) : 400;
        int first = args.length > 1 ? Integer.parseInt(args[1]) : 0;
        for (int run = first; run < first + runs && Check.isClean(); run++) {
            new RandomRunsTest(run).go();
        }
        Check.finish();
    }
}
