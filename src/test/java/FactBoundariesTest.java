/** Promises 7 to 14: the edges of what is told, and of what is known when. */
public final class FactBoundariesTest {
    private static final int NONE = GreyBoxes.NONE;
    private static final int GAP = GreyBoxes.GAP;
    private static final int LEAST_INT = Integer.MIN_VALUE;
    private static final int MOST_INT = Integer.MAX_VALUE;
    private static final int[] NO_DAYS = {-1, 60, 61, 63, 64, 100, LEAST_INT, MOST_INT};
    private static final int[] NO_QUANTITIES = {-1, 4, 5, LEAST_INT, MOST_INT};
    private static final int[] NO_READERS = {-1, 10, 11, 31, 32, LEAST_INT, MOST_INT};
    private static final int[][] NUMBERS = {{-20, 40}, {0, 100}, {0, 99}, {0, 15}};
    private static final String[] KINDS = {"warm", "damp", "rain", "wind"};

    private FactBoundariesTest() {
    }

    private static GreyBoxes with(String hill) {
        GreyBoxes x = new GreyBoxes();
        Check.due("hill of " + hill, Check.hill(x, hill) >= 0, true);
        return x;
    }

    private static String plain(String name, String quantity) {
        return Check.box(name, quantity, "0 to 0", 0);
    }

    private static void sharing() {
        GreyBoxes x = new GreyBoxes();
        for (int day = 0; day < 60; day++) {
            Check.due("7: not so yet, " + day, x.share(day, false), false);
            Check.due("7: is SHARED from now on, " + day, x.share(day, true), true);
            Check.due("7: is so already, " + day, x.share(day, true), false);
            Check.due("7: so many", x.about(5), day + 1);
        }
        for (int day : NO_DAYS) {
            Check.due("7: can't be, " + day, x.share(day, true), false);
            Check.due("7: can't be, " + day, x.share(day, false), false);
        }
        Check.due("7: all of them", x.about(5), 60);
        Check.due("7: the first no more", x.share(0, false), true);
        Check.due("7: the last no more", x.share(59, false), true);
        Check.due("7: it was no more already", x.share(59, false), false);
        Check.due("7: but two", x.about(5), 58);
        for (int day : NO_DAYS) {
            Scene.untouchedBy("7: share of " + day, y -> y.share(day, true));
        }
        Scene.untouchedBy("7: share already", y -> Check.due("7: already", y.share(1, true), false));
        Scene.untouchedBy("7: not shared already", y -> Check.due("7: already", y.share(0, false), false));
    }

    private static void farNumbers() {
        for (int q = 0; q < 4; q++) {
            GreyBoxes x = new GreyBoxes();
            int fact = 0;
            for (int number = NUMBERS[q][0]; number <= NUMBERS[q][1]; number++) {
                Check.due("8: " + number + " of " + q, x.far(q, 0, number), fact++);
                Check.due("13: " + number + " of " + q, x.farOf(q, 0, 0), number);
            }
            for (int number : new int[] {NUMBERS[q][0] - 1, NUMBERS[q][1] + 1, LEAST_INT, MOST_INT, GAP}) {
                int quantity = q;
                Check.due("8: can't be, " + number + " of " + q, x.far(q, 0, number), NONE);
                Scene.untouchedBy("8: far of " + number, y -> y.far(quantity, 0, number));
            }
            Check.due("8: no FACT came", x.about(2), fact);
            Check.due("8: the last one is known still", x.farOf(q, 0, 0), NUMBERS[q][1]);
        }
    }

    private static void farDaysAndQuantities() {
        GreyBoxes x = new GreyBoxes();
        for (int q = 0; q < 4; q++) {
            Check.due("8: on the first DAY", x.far(q, 0, q + 1), 2 * q);
            Check.due("8: on the last DAY", x.far(q, 59, q + 5), 2 * q + 1);
        }
        for (int q = 0; q < 4; q++) {
            Check.due("13: on the first DAY", x.farOf(q, 0, 0), q + 1);
            Check.due("13: on the last DAY", x.farOf(q, 59, 0), q + 5);
            Check.due("13: not known", x.farOf(q, 1, 0), GAP);
            Check.due("13: not known", x.farOf(q, 58, 0), GAP);
            for (int day : NO_DAYS) {
                Check.due("13: no DAY " + day, x.farOf(q, day, 0), GAP);
            }
        }
        for (int day : NO_DAYS) {
            Check.due("8: no DAY " + day, x.far(0, day, 0), NONE);
            Scene.untouchedBy("8: far of DAY " + day, y -> y.far(0, day, 0));
            Scene.untouchedBy("13: farOf DAY " + day, y -> y.farOf(0, day, 0));
        }
        for (int q : NO_QUANTITIES) {
            Check.due("8: no QUANTITY " + q, x.far(q, 0, 0), NONE);
            Check.due("13: no QUANTITY " + q, x.farOf(q, 0, 0), GAP);
            Check.due("13: no QUANTITY " + q, x.farOf(q, 59, 0), GAP);
            Scene.untouchedBy("8: far of QUANTITY " + q, y -> y.far(q, 0, 0));
        }
        Check.due("8: nothing came", x.about(2), 8);
    }

    private static void readNumbers() {
        for (String kind : KINDS) {
            boolean wind = kind.equals("wind");
            GreyBoxes x = with(plain("a", kind));
            int least = wind ? 0 : -999;
            int most = wind ? 15 : 999;
            Check.due("9: the least of " + kind, x.read(0, 0, 0, least), 0);
            Check.due("14: the least of " + kind, x.reading(0, 0, 0), least);
            Check.due("9: the greatest of " + kind, x.read(0, 59, 9, most), 1);
            Check.due("14: the greatest of " + kind, x.reading(0, 59, 0), most);
            for (int number : new int[] {least - 1, most + 1, LEAST_INT, MOST_INT, GAP}) {
                Check.due("9: can't be, " + number + " of " + kind, x.read(0, 0, 0, number), NONE);
            }
            Check.due("9: nothing came", x.about(2), 2);
            Check.due("9: the least stays", x.reading(0, 0, 0), least);
        }
        for (int number : new int[] {-1000, 1000}) {
            Scene.untouchedBy("9: read of " + number, y -> y.read(0, 0, 0, number));
        }
        for (int number : new int[] {-1, 16}) {
            Scene.untouchedBy("9: read of wind " + number, y -> y.read(1, 0, 0, number));
        }
    }

    private static void readSpots() {
        GreyBoxes x = with(plain("a", "warm") + plain("b", "damp") + plain("c", "rain") + plain("d", "wind") + plain("e", "warm"));
        for (int box = 0; box < 5; box++) {
            Check.due("9: on the first DAY", x.read(box, 0, box, box + 1), 2 * box);
            Check.due("9: on the last DAY", x.read(box, 59, 9 - box, box + 6), 2 * box + 1);
        }
        for (int box = 0; box < 5; box++) {
            Check.due("14: on the first DAY", x.reading(box, 0, 0), box + 1);
            Check.due("14: on the last DAY", x.reading(box, 59, 0), box + 6);
            Check.due("14: none", x.reading(box, 1, 0), GAP);
            Check.due("14: none", x.reading(box, 58, 0), GAP);
            for (int day : NO_DAYS) {
                Check.due("14: no DAY " + day, x.reading(box, day, 0), GAP);
            }
        }
        for (int day : NO_DAYS) {
            Check.due("9: no DAY " + day, x.read(0, day, 0, 0), NONE);
            Scene.untouchedBy("9: read of DAY " + day, y -> y.read(0, day, 0, 0));
        }
        for (int reader : NO_READERS) {
            Check.due("9: no reader " + reader, x.read(0, 0, reader, 0), NONE);
            Scene.untouchedBy("9: read by " + reader, y -> y.read(0, 0, reader, 0));
        }
        for (int box : new int[] {-1, 5, 6, LEAST_INT, MOST_INT}) {
            Check.due("9: no BOX " + box, x.read(box, 0, 0, 0), NONE);
            Check.due("14: no BOX " + box, x.reading(box, 0, 0), GAP);
        }
        for (int box : new int[] {-1, 3, 4, 5}) {
            Scene.untouchedBy("9: read of BOX " + box, y -> Check.due("9: no BOX", y.read(box, 0, 0, 0), NONE));
            Scene.untouchedBy("14: reading of BOX " + box, y -> Check.due("14: no BOX", y.reading(box, 0, 0), GAP));
        }
        Check.due("9: nothing came", x.about(2), 10);
    }

    private static void threeHundred() {
        GreyBoxes x = with(plain("a", "warm"));
        for (int fact = 0; fact < 299; fact++) {
            Check.due("8: FACTS, 300 at most", fact % 2 == 0 ? x.far(0, 3, fact % 40) : x.read(0, 3, 0, fact), fact);
        }
        Check.due("9: the 300th", x.read(0, 4, 1, 77), 299);
        Check.due("9: the 301st", x.read(0, 4, 1, 78), NONE);
        Check.due("9: doing nothing", x.reading(0, 4, 0), 77);
        Check.due("8: the 301st", x.far(0, 4, 8), NONE);
        Check.due("8: doing nothing", x.farOf(0, 4, 0), GAP);
        Check.due("33: FACTS", x.about(2), 300);
        Check.due("11: the 300th", x.untell(299), true);
        Check.due("11: there is none such", x.untell(300), false);
        Check.due("8: one UNTOLD is a FACT still", x.far(0, 4, 8), NONE);
        Check.due("9: one UNTOLD is a FACT still", x.read(0, 4, 1, 8), NONE);
        Check.due("33: FACTS", x.about(2), 300);
        Check.due("14: UNTOLD", x.reading(0, 4, 0), GAP);
        Check.due("13: the last one", x.farOf(0, 3, 0), 298 % 40);
        Check.due("14: the last one", x.reading(0, 3, 0), 297);
        GreyBoxes y = with(plain("a", "warm"));
        for (int fact = 0; fact < 299; fact++) {
            y.read(0, 3, 0, fact);
        }
        Check.due("8: the 300th", y.far(0, 4, 8), 299);
        Check.due("8: the 301st", y.far(0, 4, 9), NONE);
        Check.due("13: the 300th", y.farOf(0, 4, 0), 8);
        Check.due("4: another HILL", Check.hill(y, plain("a", "warm")), 1);
        Check.due("8: there is room again", y.far(0, 4, 9), 0);
    }

    private static void doubting() {
        GreyBoxes x = with(plain("a", "warm"));
        for (int reader = 0; reader < 10; reader++) {
            Check.due("10: not so yet, " + reader, x.doubt(reader, false), false);
            Check.due("10: is DOUBTED, " + reader, x.doubt(reader, true), true);
            Check.due("10: is so already, " + reader, x.doubt(reader, true), false);
            Check.due("33: those DOUBTED, as bits", x.about(7), (2 << reader) - 1);
        }
        for (int reader : NO_READERS) {
            Check.due("10: none such, " + reader, x.doubt(reader, true), false);
            Check.due("10: none such, " + reader, x.doubt(reader, false), false);
            Scene.untouchedBy("10: doubt of " + reader, y -> y.doubt(reader, true));
        }
        Check.due("33: those DOUBTED", x.about(7), 1023);
        Check.due("10: the least no more", x.doubt(0, false), true);
        Check.due("10: the greatest no more", x.doubt(9, false), true);
        Check.due("33: those DOUBTED", x.about(7), 510);
        Check.due("9: one DOUBTED may read", x.read(0, 5, 3, 17), 0);
        Check.due("14: it does not count", x.reading(0, 5, 0), GAP);
        Check.due("10: no more", x.doubt(3, false), true);
        Check.due("14: it counts", x.reading(0, 5, 0), 17);
        Scene.untouchedBy("10: doubt already", y -> Check.due("10: already", y.doubt(1, true), false));
        Scene.untouchedBy("10: no doubt already", y -> Check.due("10: already", y.doubt(0, false), false));
    }

    private static void untelling() {
        GreyBoxes x = with(plain("a", "warm"));
        for (int fact : new int[] {-1, 0, 1, LEAST_INT, MOST_INT, 299, 300}) {
            Check.due("11: none such, " + fact, x.untell(fact), false);
        }
        x.far(0, 0, 1);
        x.read(0, 0, 0, 2);
        Check.due("11: one behind the last", x.untell(2), false);
        Check.due("11: the first", x.untell(0), true);
        Check.due("11: it is so already", x.untell(0), false);
        Check.due("11: the last", x.untell(1), true);
        Check.due("11: it is so already", x.untell(1), false);
        Check.due("13: UNTOLD at the TIME at which it was TOLD", x.farOf(0, 0, 0), GAP);
        Check.due("14: UNTOLD at the TIME at which it was TOLD", x.reading(0, 0, 0), GAP);
        Check.due("11: FACTS are as many", x.about(2), 2);
        x.later(1);
        Check.due("11: later, too, it is so already", x.untell(0), false);
        for (int fact : new int[] {-1, 3, 43, 300, LEAST_INT, MOST_INT}) {
            Scene.untouchedBy("11: untell of " + fact, y -> Check.due("11: none such, or already", y.untell(fact), false));
        }
    }

    private static void timeGoesOn() {
        GreyBoxes x = new GreyBoxes();
        Check.due("12: 0", x.later(0), 0);
        Check.due("12: 1", x.later(1), 1);
        Check.due("12: 999", x.later(999), 1000);
        Check.due("12: 1000", x.later(1000), 2000);
        for (int by : new int[] {-1, 1001, LEAST_INT, MOST_INT}) {
            Check.due("12: another number, " + by, x.later(by), NONE);
            Check.due("12: doing nothing", x.about(3), 2000);
            Scene.untouchedBy("12: later by " + by, y -> y.later(by));
        }
        for (int time = 3000; time <= 99000; time += 1000) {
            Check.due("12: on", x.later(1000), time);
        }
        Check.due("12: near the end", x.later(999), 99999);
        Check.due("12: above 100,000 by 1", x.later(2), NONE);
        Check.due("12: above 100,000", x.later(1000), NONE);
        Check.due("12: doing nothing", x.about(3), 99999);
        Check.due("12: 100,000", x.later(1), 100000);
        Check.due("12: 0 more", x.later(0), 100000);
        Check.due("12: 1 more", x.later(1), NONE);
        Check.due("12: doing nothing", x.about(3), 100000);
        Check.due("8: TOLD at the last TIME", x.far(0, 0, 5), 0);
        Check.due("13: ahead of it", x.farOf(0, 0, 99999), GAP);
        Check.due("13: at it", x.farOf(0, 0, 100000), 5);
        Check.due("11: UNTOLD at the last TIME", x.untell(0), true);
        Check.due("13: at it", x.farOf(0, 0, 100000), GAP);
    }

    private static void knownAt(GreyBoxes x, int k, int far, int reading) {
        Check.due("13: as known at " + k, x.farOf(0, 5, k), far);
        Check.due("14: as known at " + k, x.reading(0, 5, k), reading);
    }

    private static void twoTimes() {
        GreyBoxes x = with(plain("a", "warm"));
        x.later(10);
        x.far(0, 5, 1);
        x.read(0, 5, 0, 11);
        x.later(10);
        x.far(0, 5, 2);
        x.read(0, 5, 0, 12);
        x.later(10);
        x.untell(2);
        x.untell(3);
        x.later(10);
        x.untell(0);
        x.untell(1);
        knownAt(x, LEAST_INT, GAP, GAP);
        knownAt(x, -1, GAP, GAP);
        knownAt(x, 9, GAP, GAP);
        knownAt(x, 10, 1, 11);
        knownAt(x, 19, 1, 11);
        knownAt(x, 20, 2, 12);
        knownAt(x, 29, 2, 12);
        knownAt(x, 30, 1, 11);
        knownAt(x, 39, 1, 11);
        knownAt(x, 40, GAP, GAP);
        knownAt(x, MOST_INT, GAP, GAP);
    }

    private static void toldLast() {
        GreyBoxes x = with(plain("a", "warm") + plain("b", "warm"));
        x.far(0, 5, 9);
        x.far(0, 5, 3);
        x.far(1, 5, 50);
        x.far(0, 6, 7);
        x.read(0, 5, 4, 8);
        x.read(0, 5, 2, 6);
        x.read(1, 5, 2, 60);
        x.read(0, 6, 2, 61);
        Check.due("13: TOLD last at one TIME", x.farOf(0, 5, 0), 3);
        Check.due("13: another QUANTITY is not the same", x.farOf(1, 5, 0), 50);
        Check.due("13: another DAY is not the same", x.farOf(0, 6, 0), 7);
        Check.due("14: TOLD last, whoever read", x.reading(0, 5, 0), 6);
        Check.due("14: another BOX is not the same", x.reading(1, 5, 0), 60);
        Check.due("14: another DAY is not the same", x.reading(0, 6, 0), 61);
        x.untell(1);
        x.untell(5);
        Check.due("13: the one ahead of it", x.farOf(0, 5, 0), 9);
        Check.due("14: the one ahead of it", x.reading(0, 5, 0), 8);
        x.untell(4);
        Check.due("14: none", x.reading(0, 5, 0), GAP);
        x.read(0, 7, 1, 71);
        x.read(0, 7, 2, 72);
        x.doubt(2, true);
        Check.due("14: one DOUBTED is passed over", x.reading(0, 7, 0), 71);
    }

    private static void daysThatDoNotCount() {
        GreyBoxes x = with(plain("a", "warm") + plain("b", "damp") + "holiday 0 to 1;holiday 59 to 59;holiday 30 to 32;holiday 32 to 33;"
            + "broken b 10 to 12;broken b 50 to 50;broken a 20 to 20;");
        for (int day = 0; day < 60; day++) {
            x.read(0, day, 0, 100 + day);
            x.read(1, day, 0, 200 + day);
            x.far(0, day, 7);
        }
        for (int day = 0; day < 60; day++) {
            boolean holiday = day <= 1 || day == 59 || day >= 30 && day <= 33;
            boolean broken = day >= 10 && day <= 12 || day == 50;
            Check.due("14: of a on " + day, x.reading(0, day, 0), holiday || day == 20 ? GAP : 100 + day);
            Check.due("14: of b on " + day, x.reading(1, day, 0), holiday || broken ? GAP : 200 + day);
            Check.due("13: FAR on " + day, x.farOf(0, day, 0), 7);
        }
        Check.due("9: such READINGS are FACTS", x.about(2), 180);
    }

    public static void main(String[] args) {
        sharing();
        farNumbers();
        farDaysAndQuantities();
        readNumbers();
        readSpots();
        threeHundred();
        doubting();
        untelling();
        timeGoesOn();
        twoTimes();
        toldLast();
        daysThatDoNotCount();
        Check.finish();
    }
}
