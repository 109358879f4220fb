import java.util.ArrayList;
import java.util.List;
import java.util.function.ToLongFunction;

/** All promises together: the fullest object, what an earlier HILL leaves, and answers that hang on no earlier question. */
public final class WholeBoundariesTest {
    private static final int NONE = GreyBoxes.NONE;
    private static final int GAP = GreyBoxes.GAP;
    private static final int FACTS = 300;

    private WholeBoundariesTest() {
    }

    private static GreyBoxes with(String hill) {
        GreyBoxes x = new GreyBoxes();
        Check.due("hill of " + hill, Check.hill(x, hill) >= 0, true);
        return x;
    }

    private static String plain(String name, String quantity) {
        return Check.box(name, quantity, "0 to 0", 0);
    }

    /** The first question that is put to a new object, each to its own. */
    private static void firstQuestions() {
        for (int k : new int[] {0, -1, 1, Integer.MIN_VALUE, Integer.MAX_VALUE}) {
            for (int day : new int[] {0, 59}) {
                Check.due("13: first question", new GreyBoxes().farOf(0, day, k), GAP);
                Check.due("14: first question", new GreyBoxes().reading(0, day, k), GAP);
                Check.due("15: first question", new GreyBoxes().laws(0, day, k), NONE);
                Check.due("16: first question", new GreyBoxes().law(0, day, 0, 0, k), GAP);
                Check.due("17: first question", new GreyBoxes().misses(0, day, k), NONE);
                Check.due("18: first question", new GreyBoxes().shows(0, day, k), GAP);
                Check.due("19: first question", new GreyBoxes().frost(0, day, k), NONE);
                Check.due("20: first question", new GreyBoxes().shown(0, day, true, k), GAP);
                Check.due("21: first question", new GreyBoxes().wrong(0, day, k), NONE);
                Check.due("23: first question", new GreyBoxes().right(0, day, true, k), GAP);
                Check.due("24: first question", new GreyBoxes().sum(0, 0, day, 0, k), GAP);
                Check.due("25: first question", new GreyBoxes().sure(0, 0, day, k), NONE);
                Check.due("26: first question", new GreyBoxes().lies(0, day, k), NONE);
                Check.due("28: first question", new GreyBoxes().says(day, k), NONE);
            }
            Check.due("22: first question", new GreyBoxes().habit(0, k), NONE);
            Check.due("22: first question", new GreyBoxes().habit(1, k), NONE);
            Check.due("27: first question", new GreyBoxes().next(k), NONE);
            Check.due("29: first question", new GreyBoxes().tried(0, k), 0);
            Check.due("29: first question", new GreyBoxes().tried(1, k), 0);
            Check.due("29: first question", new GreyBoxes().tried(2, k), 0);
            Check.due("30: first question", new GreyBoxes().luck(0, k), NONE);
            Check.due("31: first question", new GreyBoxes().learnt(0, 0, k), GAP);
            Check.due("32: first question", new GreyBoxes().rule(0, 0, k), NONE);
        }
    }

    /** FAR of rain that is not known is not dry, with no question put ahead. */
    private static void rainThatIsNotKnown() {
        GreyBoxes x = new GreyBoxes();
        Check.rules(x, "if 1 say dry;");
        Check.due("29: no rain is known", x.tried(0, 0), 0);
    }

    private static final String FULL_BOX = " zero -5 to 5 slope 8 to 12 lag 0 to 2 tire 0 to 3 off 0;";

    /** Five BOXES of the widest ranges, 16 other lines, 300 FACTS. */
    private static GreyBoxes full() {
        GreyBoxes x = with("box a warm" + FULL_BOX + "box b damp" + FULL_BOX + "box c rain" + FULL_BOX + "box d damp" + FULL_BOX
            + "box e rain" + FULL_BOX + "moved a on 20;moved e on 40;fresh e on 50;fresh d on 9;broken e 55 to 55;broken a 8 to 9;"
            + "holiday 30 to 31;holiday 7 to 7;made 0 to 1;made 2 to 3;made 4 to 5;made 6 to 7;made 8 to 9;made 10 to 11;"
            + "made 12 to 13;made 14 to 15;");
        Check.rules(x, "if e>10 say wet;if last e<9 say dry;if a+b+c+d say wet;if day>50 say dry;if c=7 say wet;if day<3 say dry;");
        int n = 0;
        for (int day = 0; n < FACTS; day = (day + 1) % 60) {
            int round = n / 60;
            if (round < 2) {
                Check.due("8: FACTS", x.far(round == 0 ? 2 : 1, day, day * 31 % 90), n);
            } else {
                Check.due("9: FACTS", x.read(round == 2 ? 4 : round == 3 ? 3 : 2, day, day % 10, day * 31 % 90 + round), n);
            }
            n++;
        }
        return x;
    }

    private static void fullObject() {
        GreyBoxes x = full();
        int[] want = {5, 16, 300, 0, 6, 0, 0, 0};
        for (int what = 0; what < 8; what++) {
            Check.due("33: full, about(" + what + ")", x.about(what), want[what]);
        }
        for (int day = 0; day < 60; day++) {
            x.share(day, day % 2 == 0);
        }
        Check.due("9: full", x.read(0, 0, 0, 0), NONE);
        Check.due("14: the last BOX on the last DAY", x.reading(4, 59, 0), 59 * 31 % 90 + 2);
        Check.due("15: the first BOX, nothing is told of it", x.laws(0, 59, 0), 660);
        Check.due("18: nothing is SHOWN", x.shows(0, 59, 0), GAP);
        Check.due("27: it is NEXT", x.next(0), 0);
        Check.due("14: broken", x.reading(4, 55, 0), GAP);
        Check.due("14: holiday", x.reading(4, 31, 0), GAP);
        // 2 more than rain FAR of the same DAY is one LAW of the last BOX without MISSES.
        Check.due("17: the last BOX", x.misses(4, 0, 0), 0);
        Check.due("16: zero 2", x.law(4, 0, 0, 0, 0), 2);
        Check.due("16: slope 10", x.law(4, 0, 0, 1, 0), 10);
        Check.due("19: no FROST", x.frost(4, 59, 0), NONE);
        Check.due("21: the last BOX is not WRONG", x.wrong(4, 59, 0), 0);
        Check.due("23: the last BOX on the last DAY", x.right(4, 59, true, 0), 59 * 31 % 90);
        Check.due("22: none is WRONG", x.habit(1, 0), 0);
        Check.due("22: the least number", x.habit(0, 0), 0);
        Check.due("24: GAPS of the last BOX: a broken DAY, three holidays", x.sum(4, 0, 59, 2, 0), 4);
        Check.due("26: none lies", x.lies(2, 59, 0), NONE);
        Check.due("26: none lies", x.lies(1, 0, 0), NONE);
        Check.due("25: the surest", x.sure(4, 58, 59, 0), 58 * 31 % 90 > 59 * 31 % 90 ? 58 : 59);
        Check.due("28: says", x.says(59, 0), 59 * 31 % 90 + 2 > 10 ? 1 : NONE);
        Check.due("29: at most 59 less the made", x.tried(0, 0) <= 59 - 16, true);
        Check.due("31: made DAYS of the last BOX", x.learnt(4, 2, 0) <= 15, true);
    }

    /** Like spots in each BOX: the last of five is looked at as the first is. */
    private static void fiveBoxes() {
        String[] kinds = {"warm", "damp", "rain", "wind"};
        for (int q = 0; q < 4; q++) {
            StringBuilder hill = new StringBuilder();
            for (int box = 0; box < 5; box++) {
                hill.append(plain("" + (char) ('a' + box), kinds[q]));
            }
            GreyBoxes x = with(hill.toString());
            for (int day : new int[] {0, 59}) {
                x.far(q, day, 9);
                for (int box = 0; box < 5; box++) {
                    x.read(box, day, box + 5, 9);
                    Check.due("26: all meet", x.lies(q, day, 0), NONE);
                }
                x.read(4, day, 9, 5);
                Check.due("26: the last BOX lies", x.lies(q, day, 0), 4);
                Check.due("21: the last BOX is WRONG", x.wrong(4, day, 0), 5);
            }
            Check.due("22: the last reader", x.habit(0, 0), 9);
            Check.due("22: both of theirs", x.habit(1, 0), 2);
            Check.due("27: the least number", x.next(0), 0);
        }
    }

    /** Other lines of an earlier HILL are gone, though the later one has fewer. */
    private static void earlierLines() {
        String[] lines = {"moved a on 5;", "fresh a on 5;", "broken a 4 to 6;", "holiday 4 to 6;", "made 4 to 6;"};
        String box = "box a warm zero 0 to 0 slope 10 to 10 lag 0 to 0 tire 3 to 3 off 0;";
        for (String line : lines) {
            for (int n = 1; n <= 16; n += 15) {
                GreyBoxes x = with(box + line.repeat(n));
                Check.due("4: another HILL", Check.hill(x, box), 1);
                Check.rules(x, "if 1 say wet;");
                x.far(0, 5, 7);
                x.far(0, 6, 7);
                x.far(2, 6, 1);
                x.read(0, 5, 0, 9);
                x.share(5, true);
                Check.due("18: no longer moved or fresh, " + line, x.shows(0, 5, 0), 7 + 1);
                Check.due("17: no longer moved, " + line, x.misses(0, 0, 0), 1);
                Check.due("14: no longer broken or holiday, " + line, x.reading(0, 5, 0), 9);
                Check.due("29: no longer made, " + line, x.tried(0, 0), 1);
                Check.due("31: no longer made, " + line, x.learnt(0, 0, 0), GAP);
            }
        }
    }

    /** Sixteen lines of a kind, of which the last one alone is of a BOX or a DAY that is asked for. */
    private static void theSixteenthLine() {
        String two = plain("a", "warm") + "box b warm zero 0 to 0 slope 10 to 10 lag 0 to 0 tire 3 to 3 off 0;";
        GreyBoxes moved = with(two + "moved a on 3;".repeat(15) + "moved b on 30;");
        moved.far(0, 39, 7);
        Check.due("18: the 16th moves", moved.shows(1, 39, 0), 7 + 2);
        GreyBoxes fresh = with(two + "fresh a on 3;".repeat(15) + "fresh b on 30;");
        fresh.far(0, 39, 7);
        Check.due("18: the 16th makes fresh", fresh.shows(1, 39, 0), 7 + 2);
        GreyBoxes broken = with(two + "broken a 3 to 3;".repeat(15) + "broken b 30 to 30;");
        broken.read(1, 30, 0, 5);
        Check.due("14: the 16th breaks", broken.reading(1, 30, 0), GAP);
        GreyBoxes holiday = with(two + "holiday 3 to 3;".repeat(15) + "holiday 30 to 30;");
        holiday.read(1, 30, 0, 5);
        Check.due("14: the 16th is a holiday", holiday.reading(1, 30, 0), GAP);
        GreyBoxes made = with(two + "made 3 to 3;".repeat(15) + "made 30 to 30;");
        made.read(1, 30, 0, 5);
        made.far(2, 31, 0);
        Check.due("31: the 16th is made", made.learnt(1, 2, 0), 1);
    }

    /** What is asked at one k, then told or taken back, then asked at the same k. */
    private static void askedAgain() {
        GreyBoxes x = with(plain("a", "warm") + "made 9 to 9;");
        Check.rules(x, "if a say wet;");
        Check.due("13: not yet", x.farOf(0, 5, 0), GAP);
        x.far(0, 5, 7);
        Check.due("13: now", x.farOf(0, 5, 0), 7);
        Check.due("14: not yet", x.reading(0, 5, 0), GAP);
        x.read(0, 5, 0, 8);
        Check.due("14: now", x.reading(0, 5, 0), 8);
        Check.due("17: not yet", x.misses(0, 5, 0), 0);
        x.share(5, true);
        Check.due("17: now", x.misses(0, 5, 0), 1);
        x.doubt(0, true);
        Check.due("17: DOUBTED", x.misses(0, 5, 0), 0);
        Check.due("14: DOUBTED", x.reading(0, 5, 0), GAP);
        x.doubt(0, false);
        Check.due("21: no more DOUBTED", x.wrong(0, 5, 0), 5);
        Check.due("28: it holds", x.says(5, 0), 1);
        x.untell(1);
        Check.due("28: UNTOLD", x.says(5, 0), NONE);
        Check.due("13: known still", x.farOf(0, 5, 0), 7);
        Check.rules(x, "if 1 say dry;");
        Check.due("28: by other RULES", x.says(5, 0), 0);
        Check.due("4: another HILL", Check.hill(x, plain("b", "warm")), 1);
        Check.due("13: none then", x.farOf(0, 5, 0), GAP);
        Check.due("14: none then", x.reading(0, 5, 0), GAP);
        Check.due("28: none then", x.says(5, 0), NONE);
    }

    /** Another HILL with BOXES, lines and ranges of its own is asked at the same k. */
    private static void anotherHillAsked() {
        GreyBoxes x = with(plain("a", "warm") + "moved a on 30;");
        Check.due("15: one LAW", x.laws(0, 5, 0), 1);
        Check.hill(x, Check.box("a", "warm", "-5 to 5", 0));
        Check.due("15: eleven LAWS", x.laws(0, 5, 0), 11);
        Check.due("16: the first", x.law(0, 5, 0, 0, 0), -5);
        x.hill();
        Check.due("15: no BOX", x.laws(0, 5, 0), NONE);
        Check.due("27: no BOX", x.next(0), NONE);
        GreyBoxes y = with(plain("a", "warm"));
        y.read(0, 3, 0, 5);
        Check.due("23: one number", y.right(0, 3, true, 0), 5);
        Check.hill(y, plain("a", "wind") + plain("b", "warm"));
        Check.due("23: none", y.right(0, 3, true, 0), GAP);
        Check.due("23: none", y.right(1, 3, true, 0), GAP);
    }

    /** SURE and LIES look at many spans: those of an earlier question are no BOX's. */
    private static void spansOfAnEarlierQuestion() {
        GreyBoxes x = with(plain("a", "damp") + plain("b", "damp"));
        for (int day = 0; day < 8; day++) {
            x.read(0, day, 0, 20);
        }
        x.read(1, 5, 0, 30);
        Check.due("26: two BOXES", x.lies(1, 5, 0), NONE);
        Check.due("25: of many DAYS", x.sure(0, 0, 7, 0), 0);
        Check.due("26: two BOXES still", x.lies(1, 5, 0), NONE);
        Check.due("25: of no DAY", x.sure(0, 10, 20, 0), NONE);
    }

    private static List<ToLongFunction<GreyBoxes>> questions() {
        List<ToLongFunction<GreyBoxes>> all = new ArrayList<>();
        for (int k : new int[] {7, 6, 0}) {
            all.add(x -> x.farOf(2, 4, k));
            all.add(x -> x.reading(2, 4, k));
            for (int box = 0; box < 3; box++) {
                int b = box;
                all.add(x -> x.laws(b, 3, k));
                all.add(x -> x.law(b, 4, 0, 1, k));
                all.add(x -> x.misses(b, 4, k));
                all.add(x -> x.shows(b, 2, k));
                all.add(x -> x.frost(b, 3, k));
                all.add(x -> x.shown(b, 5, true, k));
                all.add(x -> x.wrong(b, 4, k));
                all.add(x -> x.right(b, 4, false, k));
                all.add(x -> x.sum(b, 0, 59, 1, k));
                all.add(x -> x.sure(b, 3, 59, k));
                all.add(x -> x.learnt(b, 2, k));
            }
            all.add(x -> x.habit(0, k));
            all.add(x -> x.habit(1, k));
            all.add(x -> x.lies(0, 3, k));
            all.add(x -> x.next(k));
            all.add(x -> x.says(4, k));
            all.add(x -> x.tried(1, k));
            all.add(x -> x.luck(0, k));
            all.add(x -> x.luck(1, k));
            all.add(x -> x.rule(1, 0, k));
        }
        return all;
    }

    /** Each question alone, put to an object of its own, is answered as it is behind all others. */
    private static void anyOrder() {
        List<ToLongFunction<GreyBoxes>> all = questions();
        long[] alone = new long[all.size()];
        for (int i = 0; i < alone.length; i++) {
            alone[i] = all.get(i).applyAsLong(Scene.make());
        }
        GreyBoxes forward = Scene.make();
        GreyBoxes backward = Scene.make();
        GreyBoxes mixed = Scene.make();
        for (int i = 0; i < alone.length; i++) {
            int last = alone.length - 1 - i;
            int other = (i * 37 + 5) % alone.length;
            Check.due("question " + i + ", forward", all.get(i).applyAsLong(forward), alone[i]);
            Check.due("question " + last + ", backward", all.get(last).applyAsLong(backward), alone[last]);
            Check.due("question " + other + ", mixed", all.get(other).applyAsLong(mixed), alone[other]);
        }
    }

    /** Two objects know nothing of one another. */
    private static void twoObjects() {
        GreyBoxes x = Scene.make();
        GreyBoxes y = new GreyBoxes();
        Check.hill(y, plain("q", "wind"));
        y.read(0, 0, 0, 3);
        y.later(9);
        Check.due("an object beside another", Scene.view(x).equals(Scene.view(Scene.make())), true);
        Check.due("14: the other one", y.reading(0, 0, 0), 3);
    }

    public static void main(String[] args) {
        firstQuestions();
        rainThatIsNotKnown();
        fullObject();
        fiveBoxes();
        earlierLines();
        theSixteenthLine();
        askedAgain();
        anotherHillAsked();
        spansOfAnEarlierQuestion();
        anyOrder();
        twoObjects();
        Check.finish();
    }
}
