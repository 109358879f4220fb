import java.math.BigInteger;

/** Promises 29 to 33: the edges of TRIED, WORTH, LUCK, LEARNT, and of what about tells. */
public final class TrialBoundariesTest {
    private static final int NONE = GreyBoxes.NONE;
    private static final int GAP = GreyBoxes.GAP;
    private static final int LEAST_INT = Integer.MIN_VALUE;
    private static final int MOST_INT = Integer.MAX_VALUE;

    private TrialBoundariesTest() {
    }

    private static GreyBoxes with(String hill, String rules) {
        GreyBoxes x = new GreyBoxes();
        Check.due("hill of " + hill, Check.hill(x, hill) >= 0, true);
        Check.due("rules of " + rules, Check.rules(x, rules) >= 0, true);
        return x;
    }

    private static String plain(String name) {
        return Check.box(name, "warm", "0 to 0", 0);
    }

    private static void tried(GreyBoxes x, String why, int days, int hits, int worth) {
        Check.due("29: " + why + ", DAYS", x.tried(0, 0), days);
        Check.due("29: " + why + ", RIGHT", x.tried(1, 0), hits);
        Check.due("29: " + why + ", WORTH", x.tried(2, 0), worth);
    }

    private static void luck(GreyBoxes x, String why, long upper, long lower) {
        Check.due("30: " + why + ", upper part", x.luck(0, 0), upper);
        Check.due("30: " + why + ", lower part", x.luck(1, 0), lower);
    }

    private static void whichDaysAreTried() {
        GreyBoxes x = with(plain("a") + "made 10 to 12;made 12 to 14;made 0 to 0;made 58 to 58;", "if a say wet;");
        tried(x, "none", 0, 0, 0);
        luck(x, "none", NONE, NONE);
        for (int day = 0; day < 60; day++) {
            x.read(0, day, 0, day % 2);
        }
        tried(x, "no FAR of rain", 0, 0, 0);
        x.far(2, 1, 1);
        x.far(2, 59, 1);
        x.far(2, 14, 1);
        tried(x, "made DAYS alone", 0, 0, 0);
        x.far(2, 15, 1);
        tried(x, "the last made DAY and one of which none says", 0, 0, 0);
        x.far(2, 16, 1);
        tried(x, "the DAY behind the made ones", 1, 1, 0);
        x.far(2, 10, 0);
        tried(x, "the DAY ahead of the made ones", 2, 1, 0);
        x.far(2, 2, 0);
        tried(x, "the second DAY", 3, 1, -1);
        x.far(2, 58, 7);
        tried(x, "a DAY ahead of a made one", 4, 2, 0);
        x.far(2, 0, 1);
        tried(x, "FAR of the first DAY is no next DAY's", 4, 2, 0);
        x.far(1, 20, 1);
        x.far(0, 22, 1);
        x.far(3, 24, 1);
        tried(x, "FAR of another QUANTITY", 4, 2, 0);
        Check.due("29: not known", x.tried(0, -1), 0);
        Check.due("29: not known", x.tried(2, -1), 0);
        Check.due("30: not known", x.luck(0, -1), NONE);
        x.rules();
        tried(x, "no RULES", 0, 0, 0);
        luck(x, "no RULES", NONE, NONE);
    }

    private static void firstAndLastDay() {
        GreyBoxes x = with("", "if 1 say wet;");
        x.far(2, 1, 1);
        tried(x, "the first DAY of all", 1, 1, 0);
        x.far(2, 59, 1);
        tried(x, "the last DAY with a next one", 2, 2, 0);
        x.far(2, 0, 1);
        tried(x, "behind the last DAY is none", 2, 2, 0);
    }

    private static void wetOrDry(int rain, boolean wet) {
        GreyBoxes x = with("", "if 1 say wet;");
        x.far(2, 5, rain);
        tried(x, "rain of " + rain + ", wet said", 1, wet ? 1 : 0, wet ? 0 : -1);
        GreyBoxes y = with("", "if 1 say dry;");
        y.far(2, 5, rain);
        tried(y, "rain of " + rain + ", dry said", 1, wet ? 0 : 1, wet ? -1 : 0);
    }

    private static void othersOfTried() {
        GreyBoxes x = with("", "if 1 say wet;");
        x.far(2, 5, 1);
        for (int what : new int[] {-1, 3, 4, LEAST_INT, MOST_INT}) {
            Check.due("29: another what, " + what, x.tried(what, 0), GAP);
            Check.due("29: another what of none, " + what, new GreyBoxes().tried(what, 0), GAP);
            Scene.untouchedBy("29: another what", y -> y.tried(what, 7));
        }
        for (int part : new int[] {-1, 2, 3, LEAST_INT, MOST_INT}) {
            Check.due("30: another part, " + part, x.luck(part, 0), NONE);
            Scene.untouchedBy("30: another part", y -> y.luck(part, 7));
        }
        Scene.untouchedBy("29: asking", y -> y.tried(2, 5));
        Scene.untouchedBy("30: asking", y -> y.luck(0, 5));
    }

    private static void worths() {
        GreyBoxes x = with("", "if day<10 say wet;if day<20 say dry;");
        for (int day = 0; day < 10; day++) {
            x.far(2, day + 1, 0);
        }
        tried(x, "all wrong", 10, 0, -10);
        luck(x, "all dry: one choice alone", 1, 1);
        for (int day = 10; day < 20; day++) {
            x.far(2, day + 1, 5);
        }
        tried(x, "all wrong", 20, 0, -10);
        luck(x, "none is RIGHT: all choices have as many", 1, 1);
        for (int day = 0; day < 20; day++) {
            x.far(2, day + 1, day < 10 ? 1 : 0);
        }
        tried(x, "all RIGHT", 20, 20, 10);
        luck(x, "one of 20 over 10", 1, 184756);
        x.far(2, 10, 0);
        tried(x, "one wet less", 20, 19, 8);
        // 9 wet: all of them among the ten of which wet was said (10 choices), or else fewer are RIGHT; of 20 over 9.
        luck(x, "10 of 167960, in lowest terms", 1, 16796);
    }

    private static BigInteger over(int n, int k) {
        BigInteger ways = BigInteger.ONE;
        for (int i = 1; i <= k; i++) {
            ways = ways.multiply(BigInteger.valueOf(n - k + i)).divide(BigInteger.valueOf(i));
        }
        return k < 0 || k > n ? BigInteger.ZERO : ways;
    }

    /** The greatest numbers that LUCK can have: 59 DAYS, about half of them wet, a few not RIGHT. */
    private static void greatestLuck(int said, int wet, int met) {
        GreyBoxes x = with("", "if day<" + said + " say wet;if 1 say dry;");
        for (int day = 0; day < 59; day++) {
            boolean rains = day < met || day >= said && day < said + wet - met;
            x.far(2, day + 1, rains ? 9 : 0);
        }
        BigInteger good = BigInteger.ZERO;
        for (int n = met; n <= said; n++) {
            good = good.add(over(said, n).multiply(over(59 - said, wet - n)));
        }
        BigInteger all = over(59, wet);
        BigInteger shared = good.gcd(all);
        String why = "said " + said + " wet " + wet + " met " + met;
        tried(x, why, 59, met + 59 - said - wet + met, met + 59 - said - wet + met - Math.max(wet, 59 - wet));
        luck(x, why, good.divide(shared).longValueExact(), all.divide(shared).longValueExact());
    }

    private static void greatestLucks() {
        for (int met : new int[] {0, 1, 14, 15, 28, 29}) {
            greatestLuck(29, 29, met);
            greatestLuck(30, 29, met);
            greatestLuck(29, 30, met);
        }
        greatestLuck(59, 30, 30);
        greatestLuck(0, 30, 0);
        greatestLuck(59, 59, 59);
        greatestLuck(59, 0, 0);
        greatestLuck(0, 0, 0);
        greatestLuck(0, 59, 0);
        greatestLuck(1, 58, 1);
        greatestLuck(45, 45, 40);
    }

    private static void luckInLowestTerms() {
        GreyBoxes x = with("", "if day<2 say wet;if day<4 say dry;");
        x.far(2, 1, 1);
        x.far(2, 2, 0);
        x.far(2, 3, 0);
        x.far(2, 4, 0);
        // LUCK is asked for first: it does not hang on what was asked ahead of it.
        luck(x, "2 of 4", 1, 2);
        tried(x, "one wet of four", 4, 3, 0);
        x.far(2, 3, 1);
        // Two wet of four, two RIGHT: all but the one choice of both of which dry was said.
        tried(x, "two wet of four", 4, 2, 0);
        luck(x, "5 of 6", 5, 6);
    }

    private static int learnt(GreyBoxes x, int what) {
        return x.learnt(0, what, 0);
    }

    private static void learns(String why, int[] wet, int[] dry, int c, int way, int good) {
        GreyBoxes x = with(plain("a") + "made 0 to 57;", "");
        int day = 0;
        for (int number : wet) {
            x.read(0, day, 0, number);
            day += 2;
            x.far(2, day - 1, 1);
        }
        for (int number : dry) {
            x.read(0, day, 0, number);
            day += 2;
            x.far(2, day - 1, 0);
        }
        Check.due("31: " + why + ", c", learnt(x, 0), c);
        Check.due("31: " + why + ", the way", learnt(x, 1), way);
        Check.due("31: " + why + ", made", learnt(x, 2), good);
        Check.due("31: " + why + ", others RIGHT", learnt(x, 3), 0);
        Check.due("31: " + why + ", others", learnt(x, 4), 0);
    }

    private static int[] of(int... numbers) {
        return numbers;
    }

    private static void bounds() {
        learns("wet above c", of(7), of(6), 6, 0, 2);
        learns("wet below c", of(6), of(7), 7, 1, 2);
        learns("like ones, the least c", of(20), of(10), 10, 0, 2);
        learns("like ones, the least c of way 1", of(10), of(20), 11, 1, 2);
        learns("all wet", of(5), of(), -50, 0, 1);
        learns("all dry", of(), of(5), 5, 0, 1);
        learns("all dry at the least", of(), of(-50), -50, 0, 1);
        learns("the least c of way 0", of(-49), of(-50), -50, 0, 2);
        learns("below the least c of way 0", of(-50), of(-51), -50, 0, 1);
        learns("the greatest c of way 0", of(111), of(110), 110, 0, 2);
        learns("above the greatest c of way 0", of(112), of(111), -50, 0, 1);
        learns("the least c of way 1", of(-51), of(-50), -50, 1, 2);
        learns("below the least c of way 1", of(-52), of(-51), -50, 0, 1);
        learns("the greatest c of way 1", of(109), of(110), 110, 1, 2);
        learns("above the greatest c of way 1", of(110), of(111), -50, 0, 1);
        learns("dry above all c: way 1", of(), of(111), -50, 1, 1);
        learns("dry at the greatest c: way 0", of(), of(110), 110, 0, 1);
        learns("wet below all c of way 0", of(-50), of(), -49, 1, 1);
        learns("like ones by both ways: way 0", of(5, 7), of(6), -50, 0, 2);
        learns("two dry of three, by the least c", of(5), of(6, 4), 4, 0, 2);
        learns("the least and the greatest READING", of(999), of(-999), -50, 0, 2);
        learns("the least and the greatest READING", of(-999), of(999), -50, 1, 2);
        learns("the same READING wet and dry", of(5), of(5), -50, 0, 1);
    }

    private static void madeAndOthers() {
        GreyBoxes x = with(plain("a") + plain("b") + "made 5 to 6;made 57 to 58;", "");
        for (int what = 0; what <= 4; what++) {
            Check.due("31: nothing is told", x.learnt(0, what, 0), GAP);
        }
        x.read(0, 4, 0, 10);
        x.far(2, 5, 1);
        Check.due("31: no made DAY, but another", learnt(x, 4), GAP);
        x.read(0, 5, 0, 10);
        Check.due("31: a made DAY, but no next DAY's rain", learnt(x, 4), GAP);
        x.far(2, 7, 1);
        Check.due("31: a made DAY, but no READING", learnt(x, 4), GAP);
        x.far(2, 6, 1);
        Check.due("31: one made DAY", learnt(x, 2), 1);
        Check.due("31: one other, RIGHT", learnt(x, 3), 1);
        Check.due("31: one other", learnt(x, 4), 1);
        x.read(0, 6, 0, 9);
        x.far(2, 7, 0);
        Check.due("31: the last made DAY", learnt(x, 2), 2);
        Check.due("31: c", learnt(x, 0), 9);
        x.read(0, 7, 0, 9);
        x.far(2, 8, 0);
        Check.due("31: the DAY behind is another", learnt(x, 2), 2);
        Check.due("31: the DAY behind is another", learnt(x, 4), 2);
        Check.due("31: both RIGHT", learnt(x, 3), 2);
        x.far(2, 8, 1);
        Check.due("31: one RIGHT", learnt(x, 3), 1);
        x.read(0, 58, 0, 30);
        x.far(2, 59, 0);
        Check.due("31: the last DAY with a next one", learnt(x, 2), 2);
        x.far(2, 59, 1);
        Check.due("31: the last DAY with a next one", learnt(x, 2), 3);
        x.read(0, 59, 0, 30);
        x.far(2, 0, 1);
        Check.due("31: the last DAY has no next one", learnt(x, 4), 2);
        x.read(0, 0, 0, 30);
        x.far(2, 1, 1);
        Check.due("31: the first DAY", learnt(x, 4), 3);
        Check.due("31: not known", x.learnt(0, 0, -1), GAP);
        for (int what = 0; what <= 4; what++) {
            Check.due("31: another BOX has no made DAY", x.learnt(1, what, 0), GAP);
            Check.due("31: no such BOX", x.learnt(2, what, 0), GAP);
            Check.due("31: no such BOX", x.learnt(-1, what, 0), GAP);
            Check.due("31: no such BOX", x.learnt(MOST_INT, what, 0), GAP);
            Check.due("31: no such BOX", x.learnt(LEAST_INT, what, 0), GAP);
        }
        for (int what : new int[] {-1, 5, 6, LEAST_INT, MOST_INT}) {
            Check.due("31: another what, " + what, x.learnt(0, what, 0), GAP);
            Scene.untouchedBy("31: another what", y -> y.learnt(0, what, 7));
        }
        x.doubt(0, true);
        Check.due("31: by one who is DOUBTED", learnt(x, 2), GAP);
        Scene.untouchedBy("31: asking", y -> y.learnt(0, 3, 5));
        Scene.untouchedBy("31: no such BOX", y -> y.learnt(3, 3, 7));
    }

    private static void rulesOneByOne() {
        GreyBoxes x = with(plain("a") + "made 50 to 58;", "if day=0 say wet;if day<3 say dry;if day<3 say wet;if a say dry;if day=40 say wet;if day=58 say wet;");
        for (int day = 1; day < 60; day++) {
            x.far(2, day, day % 2);
        }
        x.read(0, 45, 0, 1);
        int[] days = {1, 2, 0, 1, 1, 0};
        int[] hits = {1, 1, 0, 1, 1, 0};
        for (int rule = 0; rule < 6; rule++) {
            Check.due("32: DAYS of " + rule, x.rule(rule, 0, 0), days[rule]);
            Check.due("32: RIGHT of " + rule, x.rule(rule, 1, 0), hits[rule]);
            for (int what : new int[] {-1, 2, 3, LEAST_INT, MOST_INT}) {
                Check.due("32: another what, " + what, x.rule(rule, what, 0), NONE);
            }
        }
        for (int rule : new int[] {-1, 6, 7, LEAST_INT, MOST_INT}) {
            Check.due("32: none such, " + rule, x.rule(rule, 0, 0), NONE);
            Check.due("32: none such, " + rule, x.rule(rule, 1, 0), NONE);
        }
        Check.due("32: as known ahead of all", x.rule(0, 0, -1), 0);
        x.rules();
        Check.due("32: none are there", x.rule(0, 0, 0), NONE);
        Check.rules(x, "if 1 say wet;");
        Check.due("32: one is there", x.rule(0, 0, 0), 50);
        Check.due("32: the second is not", x.rule(1, 0, 0), NONE);
        Scene.untouchedBy("32: asking", y -> y.rule(0, 0, 5));
        Scene.untouchedBy("32: none such", y -> Check.due("32: none such", y.rule(2, 0, 7), NONE));
        Scene.untouchedBy("32: another what", y -> Check.due("32: another what", y.rule(0, 2, 7), NONE));
    }

    private static void abouts() {
        int[] want = {3, 5, 43, 7, 2, 3, Scene.ON_TAPE.length(), 2};
        GreyBoxes x = Scene.make();
        for (int what = 0; what < want.length; what++) {
            Check.due("33: about(" + what + ")", x.about(what), want[what]);
        }
        for (int what : new int[] {-1, 8, 9, LEAST_INT, MOST_INT}) {
            Check.due("33: another what, " + what, x.about(what), NONE);
            Scene.untouchedBy("33: another what", y -> y.about(what));
        }
        Scene.untouchedBy("33: asking", y -> y.about(2));
    }

    public static void main(String[] args) {
        whichDaysAreTried();
        firstAndLastDay();
        wetOrDry(0, false);
        wetOrDry(1, true);
        wetOrDry(99, true);
        othersOfTried();
        worths();
        greatestLucks();
        luckInLowestTerms();
        bounds();
        madeAndOthers();
        rulesOneByOne();
        abouts();
        Check.finish();
    }
}
