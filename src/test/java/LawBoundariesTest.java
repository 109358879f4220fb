/** Promises 15 to 20: the edges of STRETCHES, LAWS, MISSES and FROST. */
public final class LawBoundariesTest {
    private static final int NONE = GreyBoxes.NONE;
    private static final int GAP = GreyBoxes.GAP;
    private static final int[] NO_DAYS = {-1, 60, 61, Integer.MIN_VALUE, Integer.MAX_VALUE};
    private static final int[] NO_BOXES = {-1, 3, 4, 5, Integer.MIN_VALUE, Integer.MAX_VALUE};

    private LawBoundariesTest() {
    }

    private static GreyBoxes with(String hill) {
        GreyBoxes x = new GreyBoxes();
        Check.due("hill of " + hill, Check.hill(x, hill) >= 0, true);
        return x;
    }

    private static String box(String quantity, String zero, String slope, String lag, String tire, int off) {
        return "box a " + quantity + " zero " + zero + " slope " + slope + " lag " + lag + " tire " + tire + " off " + off + ";";
    }

    private static void howMany() {
        Check.due("15: the most that can be", with(box("warm", "-5 to 5", "8 to 12", "0 to 2", "0 to 3", 0)).laws(0, 0, 0), 660);
        Check.due("15: one", with(box("warm", "-5 to -5", "12 to 12", "2 to 2", "3 to 3", 0)).laws(0, 0, 0), 1);
        Check.due("15: of wind", with(box("wind", "-5 to 5", "10 to 10", "0 to 2", "0 to 3", 0)).laws(0, 59, 0), 132);
        Check.due("15: by zero alone", with(box("warm", "-5 to 5", "8 to 8", "0 to 0", "0 to 0", 0)).laws(0, 0, 0), 11);
        Check.due("15: by slope alone", with(box("warm", "0 to 0", "8 to 12", "0 to 0", "0 to 0", 0)).laws(0, 0, 0), 5);
        Check.due("15: by lag alone", with(box("warm", "0 to 0", "8 to 8", "0 to 2", "0 to 0", 0)).laws(0, 0, 0), 3);
        Check.due("15: by tire alone", with(box("warm", "0 to 0", "8 to 8", "0 to 0", "0 to 3", 0)).laws(0, 0, 0), 4);
    }

    /** By zero, then slope, lag, tire: each LAW of the widest ranges at its place. */
    private static void order() {
        int i = 0;
        GreyBoxes x = with(box("damp", "-5 to 5", "8 to 12", "0 to 2", "0 to 3", 0));
        for (int zero = -5; zero <= 5; zero++) {
            for (int slope = 8; slope <= 12; slope++) {
                for (int lag = 0; lag <= 2; lag++) {
                    for (int tire = 0; tire <= 3; tire++) {
                        Check.due("16: zero of " + i, x.law(0, 7, i, 0, 0), zero);
                        Check.due("16: slope of " + i, x.law(0, 7, i, 1, 0), slope);
                        Check.due("16: lag of " + i, x.law(0, 7, i, 2, 0), lag);
                        Check.due("16: tire of " + i, x.law(0, 7, i, 3, 0), tire);
                        i++;
                        // An object is good for 512 calls.
                        x = i % 100 == 0 ? with(box("damp", "-5 to 5", "8 to 12", "0 to 2", "0 to 3", 0)) : x;
                    }
                }
            }
        }
        Check.due("16: behind the last", x.law(0, 7, 660, 0, 0), GAP);
    }

    private static void whatCannotBe() {
        GreyBoxes x = with(box("warm", "1 to 2", "9 to 9", "1 to 1", "3 to 3", 0));
        int[] law = {1, 9, 1, 3};
        for (int what = 0; what < 4; what++) {
            Check.due("16: first LAW", x.law(0, 0, 0, what, 0), law[what]);
            Check.due("16: ahead of the first", x.law(0, 0, -1, what, 0), GAP);
            Check.due("16: behind the last", x.law(0, 0, 2, what, 0), GAP);
            Check.due("16: far behind", x.law(0, 0, Integer.MAX_VALUE, what, 0), GAP);
            Check.due("16: far ahead", x.law(0, 0, Integer.MIN_VALUE, what, 0), GAP);
            Check.due("16: no BOX", x.law(1, 0, 0, what, 0), GAP);
            Check.due("16: no DAY", x.law(0, 60, 0, what, 0), GAP);
            Check.due("16: no DAY", x.law(0, -1, 0, what, 0), GAP);
        }
        Check.due("16: the last LAW", x.law(0, 59, 1, 0, 0), 2);
        for (int what : new int[] {-1, 4, 5, Integer.MIN_VALUE, Integer.MAX_VALUE}) {
            Check.due("16: another what, " + what, x.law(0, 0, 0, what, 0), GAP);
        }
        for (int day : NO_DAYS) {
            nothingThere(0, day);
        }
        for (int box : NO_BOXES) {
            nothingThere(box, 0);
        }
    }

    private static void nothingThere(int box, int day) {
        Scene.untouchedBy("15 to 20: asking for what can't be", x -> {
            Check.due("15: can't be", x.laws(box, day, 7), NONE);
            Check.due("16: can't be", x.law(box, day, 0, 0, 7), GAP);
            Check.due("17: can't be", x.misses(box, day, 7), NONE);
            Check.due("18: can't be", x.shows(box, day, 7), GAP);
            Check.due("19: can't be", x.frost(box, day, 7), NONE);
            Check.due("20: can't be", x.shown(box, day, false, 7), GAP);
            Check.due("20: can't be", x.shown(box, day, true, 7), GAP);
        });
    }

    private static void askingTouchesNothing() {
        Scene.untouchedBy("15 to 20: asking", x -> {
            for (int box = 0; box < 3; box++) {
                x.laws(box, 3, 6);
                x.law(box, 3, 0, 0, 5);
                x.misses(box, 59, 7);
                x.shows(box, 4, 7);
                x.frost(box, 3, 2);
                x.shown(box, 3, true, -1);
            }
        });
    }

    /** A STRETCH is told by its LAWS: on its own DAYS there is a MISS, on others none. */
    private static void stretchOf(String hill, int first, int last, int missing) {
        GreyBoxes x = with(box("warm", "0 to 0", "10 to 10", "0 to 0", "0 to 0", 0) + Check.box("b", "warm", "0 to 0", 0) + hill);
        x.far(0, missing, 5);
        x.read(0, missing, 0, 6);
        x.share(missing, true);
        for (int day = 0; day < 60; day++) {
            boolean within = day >= first && day <= last;
            Check.due("17: MISSES of the STRETCH of " + day + ", " + hill, x.misses(0, day, 0), within ? 1 : 0);
            Check.due("19: FROST of the STRETCH of " + day + ", " + hill, x.frost(0, day, 0), within ? missing : NONE);
        }
    }

    private static void stretches() {
        stretchOf("", 0, 59, 0);
        stretchOf("", 0, 59, 59);
        stretchOf("moved a on 1;", 0, 0, 0);
        stretchOf("moved a on 1;", 1, 59, 1);
        stretchOf("moved a on 59;", 0, 58, 58);
        stretchOf("moved a on 59;", 59, 59, 59);
        stretchOf("moved a on 20;moved a on 21;", 20, 20, 20);
        stretchOf("moved a on 40;moved a on 20;", 20, 39, 39);
        stretchOf("moved a on 40;moved a on 20;", 0, 19, 5);
        stretchOf("moved a on 40;moved a on 20;", 40, 59, 40);
        stretchOf("moved a on 20;moved a on 20;", 20, 59, 30);
        stretchOf("moved b on 20;", 0, 59, 30);
        stretchOf("fresh a on 20;broken a 25 to 25;holiday 26 to 26;made 28 to 29;", 0, 59, 30);
    }

    private static void ageOn(String hill, int day, int age) {
        GreyBoxes x = with(box("rain", "0 to 0", "10 to 10", "0 to 0", "1 to 1", 0) + Check.box("b", "rain", "0 to 0", 0) + hill);
        x.far(2, day, 50);
        Check.due("18: AGE " + age + " on " + day + ", " + hill, x.shows(0, day, 0), 50 + age / 10);
    }

    private static void ages() {
        ageOn("", 0, 0);
        ageOn("", 9, 9);
        ageOn("", 10, 10);
        ageOn("", 59, 59);
        ageOn("moved a on 30;", 29, 29);
        ageOn("moved a on 30;", 30, 0);
        ageOn("moved a on 30;", 39, 9);
        ageOn("moved a on 30;", 40, 10);
        ageOn("fresh a on 30;", 29, 29);
        ageOn("fresh a on 30;", 30, 0);
        ageOn("fresh a on 30;", 39, 9);
        ageOn("fresh a on 30;", 40, 10);
        ageOn("fresh a on 25;moved a on 30;", 29, 4);
        ageOn("fresh a on 25;moved a on 30;", 39, 9);
        ageOn("fresh a on 25;moved a on 30;", 40, 10);
        ageOn("moved a on 25;fresh a on 30;", 39, 9);
        ageOn("fresh a on 40;fresh a on 30;", 49, 9);
        ageOn("fresh a on 40;fresh a on 30;", 39, 9);
        ageOn("fresh a on 40;fresh a on 30;", 40, 0);
        ageOn("moved a on 30;fresh a on 30;", 40, 10);
        ageOn("fresh b on 30;moved b on 31;", 40, 40);
        ageOn("made 30 to 35;holiday 30 to 30;", 40, 40);
        ageOn("broken a 30 to 35;", 40, 40);
        ageOn("broken a 30 to 35;", 30, 30);
        ageOn("fresh a on 20;broken a 25 to 30;", 39, 19);
    }

    private static void showing(String quantity, int q, String law, int day, int far, int want) {
        String[] n = law.split(" ");
        GreyBoxes x = with(box(quantity, n[0] + " to " + n[0], n[1] + " to " + n[1], "0 to 0", n[2] + " to " + n[2], 0));
        x.far(q, day, far);
        String call = quantity + " by " + law + " of " + far + " on " + day;
        Check.due("18: " + call, x.shows(0, day, 0), want);
        Check.due("20: least, " + call, x.shown(0, day, false, 0), want);
        Check.due("20: greatest, " + call, x.shown(0, day, true, 0), want);
    }

    private static void roundedDown() {
        showing("warm", 0, "0 8 0", 0, -1, -1);
        showing("warm", 0, "0 8 0", 0, 1, 0);
        showing("warm", 0, "0 12 0", 0, -20, -24);
        showing("warm", 0, "0 12 0", 0, -19, -23);
        showing("warm", 0, "0 9 0", 0, -10, -9);
        showing("warm", 0, "0 9 0", 0, -11, -10);
        showing("warm", 0, "5 12 3", 59, 40, 5 + 48 + 17);
        showing("warm", 0, "-5 8 0", 59, -20, -5 - 16);
        showing("warm", 0, "0 11 3", 6, 1, 1 + 1);
        showing("warm", 0, "0 9 3", 3, 1, 0);
        showing("warm", 0, "0 9 3", 4, 1, 1);
        showing("damp", 1, "-5 10 0", 0, 0, -5);
        showing("damp", 1, "5 12 3", 59, 100, 5 + 120 + 17);
        showing("rain", 2, "-5 8 1", 10, 0, -4);
        showing("rain", 2, "0 8 2", 5, 99, 79 + 1);
        showing("rain", 2, "0 8 2", 4, 99, 79);
    }

    private static void windGoesRound() {
        showing("wind", 3, "0 10 0", 0, 15, 15);
        showing("wind", 3, "1 10 0", 0, 15, 0);
        showing("wind", 3, "0 10 0", 0, 0, 0);
        showing("wind", 3, "-1 10 0", 0, 0, 15);
        showing("wind", 3, "-5 10 0", 0, 4, 15);
        showing("wind", 3, "-5 10 0", 0, 5, 0);
        showing("wind", 3, "5 10 3", 59, 15, (5 + 15 + 17) % 16);
        showing("wind", 3, "5 10 3", 59, 10, 0);
        showing("wind", 3, "-5 10 3", 59, 4, 0);
    }

    private static void lagOf(int lag) {
        GreyBoxes x = with(box("warm", "0 to 0", "10 to 10", lag + " to " + lag, "0 to 0", 0) + "moved a on 30;");
        for (int day = 0; day < 60; day += day < 4 || day > 27 && day < 33 || day > 55 ? 1 : 4) {
            x.far(0, day, day - 19 > 40 ? 40 : day - 19);
        }
        for (int day = 0; day < 60; day++) {
            Check.due("18: lag " + lag + " on " + day, x.shows(0, day, 0), day < lag ? GAP : x.farOf(0, day - lag, 0));
        }
        Check.due("18: of the first DAY", x.shows(0, lag, 0), -19);
        Check.due("18: over the move", x.shows(0, 30, 0), 11 - lag);
    }

    private static void nothingIsShown() {
        for (int lag = 0; lag <= 2; lag++) {
            lagOf(lag);
        }
        GreyBoxes x = with(box("warm", "-1 to 1", "10 to 10", "1 to 2", "0 to 0", 0));
        x.far(0, 0, 7);
        Check.due("20: no such DAY by any LAW", x.shown(0, 0, true, 0), GAP);
        Check.due("20: no such DAY by any LAW", x.shown(0, 0, false, 0), GAP);
        Check.due("20: by lag 1 alone", x.shown(0, 1, false, 0), 6);
        Check.due("20: by lag 1 alone", x.shown(0, 1, true, 0), 8);
        Check.due("20: by lag 2 alone", x.shown(0, 2, false, 0), 6);
        Check.due("18: by the first, of lag 1", x.shows(0, 2, 0), GAP);
        Check.due("18: by the first, of lag 1", x.shows(0, 1, 0), 6);
        Check.due("18: not known", x.shows(0, 1, -1), GAP);
        Check.due("20: not known", x.shown(0, 1, true, -1), GAP);
        x.far(0, 1, 20);
        Check.due("20: least of both lags", x.shown(0, 2, false, 0), 6);
        Check.due("20: greatest of both lags", x.shown(0, 2, true, 0), 21);
        GreyBoxes w = with(box("wind", "-1 to 1", "10 to 10", "0 to 0", "0 to 0", 0));
        w.far(3, 0, 15);
        Check.due("20: least of wind", w.shown(0, 0, false, 0), 0);
        Check.due("20: greatest of wind", w.shown(0, 0, true, 0), 15);
        x.far(1, 9, 20);
        Check.due("18: of its own QUANTITY alone", x.shows(0, 10, 0), GAP);
    }

    private static void fitting(String quantity, int q, int far, int off, int reading, boolean does) {
        GreyBoxes x = with(box(quantity, "0 to 0", "10 to 10", "0 to 0", "0 to 0", off));
        x.far(q, 3, far);
        x.read(0, 3, 0, reading);
        x.share(3, true);
        String call = quantity + " " + reading + " of " + far + " off " + off;
        Check.due("17: MISSES, " + call, x.misses(0, 3, 0), does ? 0 : 1);
        Check.due("19: FROST, " + call, x.frost(0, 3, 0), does ? NONE : 3);
        Check.due("21: WRONG, " + call, x.wrong(0, 3, 0) == 0, does);
    }

    private static void fits() {
        for (int off = 0; off <= 9; off++) {
            fitting("warm", 0, 10, off, 10 + off, true);
            fitting("warm", 0, 10, off, 11 + off, false);
            fitting("warm", 0, 10, off, 10 - off, true);
            fitting("warm", 0, 10, off, 9 - off, false);
            int round = Math.min(off, 8);
            fitting("wind", 3, 12, off, 12 + round & 15, true);
            fitting("wind", 3, 2, off, 2 - round & 15, true);
            if (off < 8) {
                fitting("wind", 3, 12, off, 13 + off & 15, false);
                fitting("wind", 3, 2, off, 1 - off & 15, false);
            }
        }
        fitting("wind", 3, 0, 7, 8, false);
        fitting("wind", 3, 0, 8, 8, true);
        fitting("damp", 1, 0, 9, -999, false);
        fitting("rain", 2, 99, 9, 999, false);
    }

    private static void whichReadingsMiss() {
        GreyBoxes x = with(box("warm", "0 to 1", "10 to 10", "0 to 0", "0 to 0", 0) + "moved a on 10;holiday 5 to 5;broken a 6 to 6;");
        for (int day = 3; day <= 10; day++) {
            x.far(0, day, 20);
            x.read(0, day, day == 7 ? 7 : 1, 30);
        }
        Check.due("17: no DAY is SHARED", x.misses(0, 0, 0), 0);
        x.share(10, true);
        Check.due("17: SHARED in another STRETCH", x.misses(0, 0, 0), 0);
        x.share(5, true);
        Check.due("17: on a holiday", x.misses(0, 0, 0), 0);
        x.share(6, true);
        Check.due("17: while broken", x.misses(0, 0, 0), 0);
        x.doubt(7, true);
        x.share(7, true);
        Check.due("17: by one who is DOUBTED", x.misses(0, 0, 0), 0);
        Check.due("19: by one who is DOUBTED", x.frost(0, 0, 0), NONE);
        x.share(2, true);
        x.read(0, 2, 1, 30);
        Check.due("17: SHOWS nothing", x.misses(0, 0, 0), 0);
        x.share(9, true);
        Check.due("17: the last DAY of a STRETCH", x.misses(0, 0, 0), 1);
        Check.due("19: the last DAY of a STRETCH", x.frost(0, 0, 0), 9);
        x.doubt(7, false);
        Check.due("17: by one DOUBTED no more", x.misses(0, 0, 0), 2);
        Check.due("19: by one DOUBTED no more", x.frost(0, 0, 0), 7);
        Check.due("17: the first DAY of a STRETCH", x.misses(0, 10, 0), 1);
        Check.due("19: the first DAY of a STRETCH", x.frost(0, 10, 0), 10);
        Check.due("15: all have as many", x.laws(0, 0, 0), 2);
        x.read(0, 3, 1, 21);
        x.share(3, true);
        Check.due("15: one has fewer", x.laws(0, 0, 0), 1);
        Check.due("16: it is the second", x.law(0, 0, 0, 0, 0), 1);
        Check.due("17: fewest", x.misses(0, 0, 0), 2);
        x.share(3, false);
        Check.due("15: no more SHARED", x.laws(0, 0, 0), 2);
        Check.due("17: not known", x.misses(0, 0, -1), 0);
        Check.due("19: not known", x.frost(0, 0, -1), NONE);
    }

    private static void mostMisses() {
        GreyBoxes x = with(box("warm", "0 to 0", "10 to 10", "0 to 0", "0 to 0", 0));
        for (int day = 0; day < 60; day++) {
            x.far(0, day, 20);
            x.read(0, day, 0, 30);
            x.share(day, true);
        }
        Check.due("17: all DAYS miss", x.misses(0, 0, 0), 60);
        Check.due("15: the LAW is there still", x.laws(0, 0, 0), 1);
        Check.due("18: it SHOWS still", x.shows(0, 59, 0), 20);
        Check.due("19: at once", x.frost(0, 0, 0), 0);
    }

    /** FROST comes when the last LAW has its first MISS, even if it has the fewest in the end. */
    private static void frosts() {
        GreyBoxes x = with(box("warm", "0 to 2", "10 to 10", "0 to 0", "0 to 0", 0));
        int[] readings = {20, 21, 22, 22, 22};
        for (int i = 0; i < readings.length; i++) {
            x.far(0, 10 + i, 20);
            x.read(0, 10 + i, 0, readings[i]);
        }
        x.share(10, true);
        Check.due("19: one is without", x.frost(0, 0, 0), NONE);
        x.share(14, true);
        Check.due("19: the last DAY", x.frost(0, 0, 0), 14);
        x.share(11, true);
        Check.due("19: an earlier one", x.frost(0, 0, 0), 11);
        x.share(12, true);
        x.share(13, true);
        Check.due("19: as early", x.frost(0, 0, 0), 11);
        Check.due("16: by that with the fewest", x.law(0, 0, 0, 0, 0), 2);
        Check.due("17: its MISSES", x.misses(0, 0, 0), 2);
        Check.due("15: it is alone", x.laws(0, 0, 0), 1);
        x.share(10, false);
        Check.due("19: later without the first", x.frost(0, 0, 0), 12);
        x.share(11, false);
        Check.due("19: one is without", x.frost(0, 0, 0), NONE);
    }

    /** Two READINGS which one LAW of a range FITS, or none: on either side of each range that can be. */
    private static void frostOfEachRange() {
        for (int low = -5; low <= 5; low++) {
            for (int high = low; high <= 5; high++) {
                GreyBoxes x = with(box("warm", low + " to " + high, "10 to 10", "0 to 0", "0 to 0", 1));
                String zero = low + " to " + high;
                x.far(0, 3, 20);
                x.read(0, 3, 0, 20 + high + 1);
                x.share(3, true);
                Check.due("19: zero " + zero + " FITS above", x.frost(0, 0, 0), NONE);
                x.read(0, 3, 0, 20 + low - 1);
                Check.due("19: zero " + zero + " FITS below", x.frost(0, 0, 0), NONE);
                Check.due("15: zero " + zero + " FITS below", x.laws(0, 0, 0), 1);
                x.read(0, 3, 0, 20 + high + 2);
                Check.due("19: above zero " + zero, x.frost(0, 0, 0), 3);
                x.read(0, 3, 0, 20 + low - 2);
                Check.due("19: below zero " + zero, x.frost(0, 0, 0), 3);
                Check.due("15: all miss by zero " + zero, x.laws(0, 0, 0), high - low + 1);
            }
        }
    }

    /** All 660 LAWS at once: of what is told but one is without MISSES. */
    private static void allLawsButOne() {
        GreyBoxes x = with(box("damp", "-5 to 5", "8 to 12", "0 to 2", "0 to 3", 0));
        for (int day = 0; day < 60; day++) {
            x.far(1, day, day * 37 % 101);
            x.share(day, true);
        }
        for (int day = 2; day < 60; day++) {
            x.read(0, day, 0, 5 + Math.floorDiv(12 * ((day - 2) * 37 % 101), 10) + 3 * day / 10);
        }
        Check.due("15: the last LAW alone", x.laws(0, 0, 0), 1);
        Check.due("17: it has no MISSES", x.misses(0, 0, 0), 0);
        Check.due("19: no FROST", x.frost(0, 0, 0), NONE);
        Check.due("16: zero", x.law(0, 0, 0, 0, 0), 5);
        Check.due("16: slope", x.law(0, 0, 0, 1, 0), 12);
        Check.due("16: lag", x.law(0, 0, 0, 2, 0), 2);
        Check.due("16: tire", x.law(0, 0, 0, 3, 0), 3);
        Check.due("16: no second one", x.law(0, 0, 1, 0, 0), GAP);
        x.read(0, 59, 0, 900);
        Check.due("19: FROST on the last DAY", x.frost(0, 0, 0), 59);
        Check.due("17: one MISS", x.misses(0, 0, 0), 1);
        x.untell(x.about(2) - 1);
        x.read(0, 2, 0, 900);
        Check.due("19: FROST on the first DAY that SHOWS by all", x.frost(0, 0, 0), 2);
    }

    /** A LAW that SHOWS nothing on a DAY has no MISS there. */
    private static void lagsThatShowNothing() {
        GreyBoxes x = with(box("warm", "0 to 0", "10 to 10", "0 to 1", "0 to 0", 0));
        x.far(0, 4, 10);
        x.read(0, 4, 0, 15);
        x.share(4, true);
        Check.due("15: lag 0 misses", x.laws(0, 0, 0), 1);
        Check.due("16: lag 1 does not", x.law(0, 0, 0, 2, 0), 1);
        Check.due("17: none", x.misses(0, 0, 0), 0);
        Check.due("19: none", x.frost(0, 0, 0), NONE);
        x.far(0, 3, 10);
        Check.due("19: lag 1 misses, too", x.frost(0, 0, 0), 4);
        Check.due("15: both", x.laws(0, 0, 0), 2);
        x.read(0, 0, 0, 15);
        x.far(0, 0, 15);
        x.share(0, true);
        Check.due("15: on DAY 0 lag 1 SHOWS nothing, lag 0 FITS", x.laws(0, 0, 0), 2);
        x.far(0, 0, 16);
        Check.due("15: on DAY 0 lag 0 misses alone", x.laws(0, 0, 0), 1);
        Check.due("16: it is lag 1", x.law(0, 0, 0, 2, 0), 1);
    }

    public static void main(String[] args) {
        howMany();
        order();
        whatCannotBe();
        askingTouchesNothing();
        stretches();
        ages();
        roundedDown();
        windGoesRound();
        nothingIsShown();
        fits();
        whichReadingsMiss();
        mostMisses();
        frosts();
        frostOfEachRange();
        allLawsButOne();
        lagsThatShowNothing();
        Check.finish();
    }
}
