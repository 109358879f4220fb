/** Promises 21 to 27: the edges of WRONG, HABIT, RIGHT, SUM, SURE, LIES and NEXT. */
public final class RightBoundariesTest {
    private static final int NONE = GreyBoxes.NONE;
    private static final int GAP = GreyBoxes.GAP;
    private static final int[] NO_DAYS = {-1, 60, 61, Integer.MIN_VALUE, Integer.MAX_VALUE};
    private static final int[] NO_BOXES = {-1, 3, 4, 5, Integer.MIN_VALUE, Integer.MAX_VALUE};

    private RightBoundariesTest() {
    }

    private static GreyBoxes with(String hill) {
        GreyBoxes x = new GreyBoxes();
        Check.due("hill of " + hill, Check.hill(x, hill) >= 0, true);
        return x;
    }

    private static String plain(String name, String quantity, int off) {
        return Check.box(name, quantity, "0 to 0", off);
    }

    private static String box(String name, String quantity, String zero, String slope, String lag, int off) {
        return "box " + name + " " + quantity + " zero " + zero + " slope " + slope + " lag " + lag + " tire 0 to 0 off " + off + ";";
    }

    private static void tails() {
        GreyBoxes x = with(plain("w", "wind", 1) + plain("t", "warm", 1));
        x.far(3, 5, 3);
        x.far(0, 5, 3);
        int[] kinds = {5, 5, 0, 0, 0, 5, 5, 5, 5, 5, 1, 1, 1, 5, 5, 5};
        for (int number = 0; number < 16; number++) {
            x.read(0, 5, 0, number);
            Check.due("21: TAIL of wind 3, " + number, x.wrong(0, 5, 0), kinds[number]);
        }
        x.far(3, 5, 12);
        for (int number = 0; number < 16; number++) {
            x.read(0, 5, 0, number);
            Check.due("21: TAIL of wind 12, " + number, x.wrong(0, 5, 0), kinds[number + 7 & 15]);
        }
        x.read(1, 5, 0, -5);
        Check.due("21: no TAIL but of wind", x.wrong(1, 5, 0), 5);
        x.far(3, 5, 3);
        x.read(0, 4, 0, 11);
        x.read(0, 5, 0, 11);
        Check.due("21: TAIL, not COPY", x.wrong(0, 5, 0), 1);
    }

    private static void tailsNearTheHalf() {
        GreyBoxes x = with(plain("w", "wind", 3));
        x.far(3, 5, 0);
        int[] kinds = {0, 0, 0, 0, 5, 1, 1, 1, 1, 1, 1, 1, 5, 0, 0, 0};
        for (int number = 0; number < 16; number++) {
            x.read(0, 5, 0, number);
            Check.due("21: off 3, " + number, x.wrong(0, 5, 0), kinds[number]);
        }
        GreyBoxes y = with(plain("w", "wind", 7));
        y.far(3, 5, 0);
        y.read(0, 5, 0, 8);
        Check.due("21: off 7, the other side", y.wrong(0, 5, 0), 1);
    }

    private static void copies() {
        GreyBoxes x = with(plain("t", "warm", 0) + plain("u", "warm", 0) + "moved t on 20;holiday 30 to 30;broken t 40 to 40;");
        for (int day : new int[] {0, 1, 5, 20, 31, 41, 59}) {
            x.far(0, day, 10);
            x.read(0, day, 0, 17);
        }
        Check.due("21: no DAY is ahead of the first", x.wrong(0, 0, 0), 5);
        Check.due("21: COPY of the first", x.wrong(0, 1, 0), 2);
        x.read(0, 4, 0, 16);
        Check.due("21: another number", x.wrong(0, 5, 0), 5);
        x.read(1, 4, 0, 17);
        Check.due("21: of another BOX", x.wrong(0, 5, 0), 5);
        x.read(0, 6, 0, 17);
        x.read(0, 3, 0, 17);
        Check.due("21: not of the DAY ahead", x.wrong(0, 5, 0), 5);
        x.read(0, 4, 3, 17);
        Check.due("21: COPY, whoever read", x.wrong(0, 5, 0), 2);
        x.doubt(3, true);
        Check.due("21: one DOUBTED does not count", x.wrong(0, 5, 0), 5);
        x.read(0, 19, 0, 17);
        Check.due("21: COPY over a move", x.wrong(0, 20, 0), 2);
        x.read(0, 30, 0, 17);
        Check.due("21: on a holiday", x.wrong(0, 31, 0), 5);
        x.read(0, 40, 0, 17);
        Check.due("21: while broken", x.wrong(0, 41, 0), 5);
        x.read(0, 58, 0, 17);
        Check.due("21: COPY on the last DAY", x.wrong(0, 59, 0), 2);
        x.read(0, 59, 0, 10);
        Check.due("21: not WRONG though the same could be", x.wrong(0, 59, 0), 0);
        x.read(0, 58, 0, 10);
        Check.due("21: the same, not WRONG", x.wrong(0, 59, 0), 0);
    }

    private static void rows() {
        GreyBoxes x = with(plain("a", "warm", 0) + plain("b", "damp", 1) + plain("c", "rain", 0) + plain("d", "wind", 0));
        x.far(0, 5, 10);
        x.far(1, 5, 30);
        x.read(0, 5, 0, 31);
        Check.due("21: no other READING", x.wrong(0, 5, 0), 5);
        x.read(1, 5, 0, 10);
        Check.due("21: ROW", x.wrong(0, 5, 0), 3);
        Check.due("21: ROW there", x.wrong(1, 5, 0), 3);
        x.read(0, 5, 0, 32);
        Check.due("21: this one does not FIT there", x.wrong(0, 5, 0), 5);
        x.read(0, 5, 0, 29);
        Check.due("21: it FITS there", x.wrong(0, 5, 0), 3);
        x.read(1, 5, 0, 11);
        Check.due("21: that one does not FIT here", x.wrong(0, 5, 0), 5);
        x.read(1, 5, 0, 10);
        x.read(1, 4, 0, 10);
        Check.due("21: COPY, not ROW", x.wrong(1, 5, 0), 2);
        Check.due("21: but ROW here", x.wrong(0, 5, 0), 3);
        x.far(0, 6, 10);
        x.read(0, 6, 0, 30);
        x.read(1, 6, 0, 10);
        Check.due("21: it SHOWS nothing there", x.wrong(0, 6, 0), 5);
        x.read(1, 5, 9, 10);
        x.untell(x.about(2) - 1);
        x.doubt(0, true);
        x.read(0, 5, 1, 30);
        Check.due("21: the other one is DOUBTED", x.wrong(0, 5, 0), 5);
        x.doubt(0, false);
        x.far(2, 5, 30);
        x.read(2, 5, 0, 15);
        Check.due("21: rain, TWICE", x.wrong(2, 5, 0), 4);
        x.read(0, 5, 1, 30);
        x.read(1, 5, 0, 12);
        x.far(0, 5, 15);
        Check.due("21: rain, ROW, not TWICE", x.wrong(2, 5, 0), 3);
        Check.due("21: by the third BOX", x.wrong(0, 5, 0), 3);
    }

    private static void rowsOfWind() {
        GreyBoxes x = with(plain("w", "wind", 0) + plain("t", "warm", 0));
        x.far(3, 5, 3);
        x.far(0, 5, 11);
        x.read(0, 5, 0, 11);
        x.read(1, 5, 0, 3);
        Check.due("21: TAIL, not ROW", x.wrong(0, 5, 0), 1);
        Check.due("21: ROW", x.wrong(1, 5, 0), 3);
        x.far(0, 5, 12);
        x.read(0, 5, 0, 12);
        Check.due("21: ROW of wind", x.wrong(0, 5, 0), 3);
    }

    /** Off 9 of wind FITS all that is there, but not what is not. */
    private static void rowsOfNothing() {
        GreyBoxes x = with(plain("t", "warm", 0) + plain("w", "wind", 9));
        x.far(0, 5, 10);
        x.read(0, 5, 0, 3);
        x.read(1, 5, 0, 10);
        Check.due("21: the other BOX SHOWS nothing", x.wrong(0, 5, 0), 5);
        x.far(3, 5, 2);
        Check.due("21: the other BOX SHOWS something", x.wrong(0, 5, 0), 3);
        x.untell(2);
        Check.due("21: the other BOX has no READING", x.wrong(0, 5, 0), 5);
        x.read(1, 4, 0, 10);
        x.read(1, 6, 0, 10);
        Check.due("21: on another DAY", x.wrong(0, 5, 0), 5);
    }

    private static void twices() {
        GreyBoxes x = with(plain("r", "rain", 1) + plain("t", "warm", 1));
        x.far(2, 5, 20);
        x.far(0, 5, 20);
        int[] numbers = {8, 9, 10, 11, 18, 19, 20, 21, 22, 40, 0, -10};
        int[] kinds = {5, 5, 4, 5, 5, 0, 0, 0, 5, 5, 5, 5};
        for (int i = 0; i < numbers.length; i++) {
            x.read(0, 5, 0, numbers[i]);
            Check.due("21: TWICE, " + numbers[i] + " of 20", x.wrong(0, 5, 0), kinds[i]);
        }
        x.read(1, 5, 0, 10);
        Check.due("21: no TWICE but of rain", x.wrong(1, 5, 0), 5);
        x.far(2, 5, 21);
        x.read(0, 5, 0, 10);
        Check.due("21: twice 10 FITS 21", x.wrong(0, 5, 0), 4);
        x.read(0, 5, 0, 11);
        Check.due("21: twice 11 FITS 21", x.wrong(0, 5, 0), 4);
        x.read(0, 4, 0, 10);
        x.read(0, 5, 0, 10);
        Check.due("21: COPY, not TWICE", x.wrong(0, 5, 0), 2);
        GreyBoxes y = with(Check.box("r", "rain", "-5 to -5", 3));
        y.far(2, 5, 0);
        y.read(0, 5, 0, -9);
        Check.due("21: less, but twice is further", y.wrong(0, 5, 0), 5);
        y.read(0, 5, 0, -1);
        Check.due("21: twice FITS, but not less than it SHOWS", y.wrong(0, 5, 0), 5);
    }

    private static void wrongOrNone() {
        GreyBoxes x = with(box("a", "warm", "0 to 1", "10 to 10", "0 to 0", 0) + "moved a on 10;");
        Check.due("21: no READING", x.wrong(0, 0, 0), NONE);
        x.far(0, 0, 5);
        Check.due("21: no READING, FAR alone", x.wrong(0, 0, 0), NONE);
        x.read(0, 0, 0, 5);
        Check.due("21: not WRONG by the first LAW", x.wrong(0, 0, 0), 0);
        x.read(0, 0, 0, 6);
        Check.due("21: WRONG by the first LAW, not SHARED", x.wrong(0, 0, 0), 5);
        x.share(0, true);
        Check.due("21: not WRONG, the first LAW is another now", x.wrong(0, 0, 0), 0);
        x.read(0, 1, 0, 6);
        Check.due("21: it SHOWS nothing", x.wrong(0, 1, 0), NONE);
        x.far(0, 10, 5);
        x.read(0, 10, 0, 6);
        Check.due("21: by the first LAW of another STRETCH", x.wrong(0, 10, 0), 5);
        Check.due("21: not known", x.wrong(0, 10, -1), NONE);
        x.doubt(0, true);
        Check.due("21: by one who is DOUBTED", x.wrong(0, 10, 0), NONE);
        x.far(0, 59, 5);
        x.read(0, 59, 1, 5);
        Check.due("21: on the last DAY", x.wrong(0, 59, 0), 0);
        for (int day : NO_DAYS) {
            Scene.untouchedBy("21: no DAY", y -> Check.due("21: no DAY " + day, y.wrong(0, day, 7), NONE));
        }
        for (int box : NO_BOXES) {
            Scene.untouchedBy("21: no BOX", y -> Check.due("21: no BOX " + box, y.wrong(box, 0, 7), NONE));
        }
        Scene.untouchedBy("21: asking", y -> y.wrong(0, 3, 5));
    }

    private static void habit(GreyBoxes x, String why, int reader, int bad) {
        Check.due("22: " + why + ", the reader", x.habit(0, 0), reader);
        Check.due("22: " + why + ", how many", x.habit(1, 0), bad);
    }

    private static void habits() {
        habit(new GreyBoxes(), "no BOX", NONE, NONE);
        GreyBoxes x = with(plain("a", "warm", 0) + plain("b", "damp", 0) + "holiday 50 to 50;");
        habit(x, "no READING", NONE, NONE);
        x.read(0, 59, 1, 5);
        habit(x, "it SHOWS nothing", NONE, NONE);
        x.far(0, 50, 5);
        x.read(0, 50, 0, 7);
        habit(x, "on a holiday", NONE, NONE);
        x.far(0, 59, 5);
        habit(x, "none WRONG", 1, 0);
        x.far(0, 0, 5);
        x.read(0, 0, 0, 5);
        habit(x, "none WRONG, the least number", 0, 0);
        x.far(1, 0, 5);
        x.read(1, 0, 9, 6);
        habit(x, "the greatest number, one of one", 9, 1);
        x.far(1, 1, 5);
        x.read(1, 1, 9, 5);
        habit(x, "one of two", 9, 1);
        x.far(1, 2, 5);
        x.far(1, 3, 5);
        x.read(1, 2, 8, 7);
        x.read(1, 3, 8, 5);
        habit(x, "one of two each, the least number", 8, 1);
        x.read(0, 1, 8, 5);
        habit(x, "a READING where it SHOWS nothing is not of them", 8, 1);
        x.far(0, 1, 5);
        habit(x, "one of three is less", 9, 1);
        x.far(0, 2, 5);
        x.read(0, 2, 8, 9);
        habit(x, "two of four is as much", 8, 2);
        x.doubt(8, true);
        habit(x, "one DOUBTED is not of them", 9, 1);
        x.doubt(9, true);
        habit(x, "none WRONG of the others", 0, 0);
        Check.due("22: not known", x.habit(0, -1), NONE);
        Check.due("22: not known", x.habit(1, -1), NONE);
        for (int what : new int[] {-1, 2, 3, Integer.MIN_VALUE, Integer.MAX_VALUE}) {
            Check.due("22: another what, " + what, x.habit(what, 0), NONE);
            Scene.untouchedBy("22: another what", y -> y.habit(what, 7));
        }
        Scene.untouchedBy("22: asking", y -> y.habit(1, 5));
    }

    /** One reader for each way to be WRONG, and one who is RIGHT: each is asked for with the others DOUBTED. */
    private static void habitByEachKind() {
        GreyBoxes x = with(plain("w", "wind", 0) + plain("r", "rain", 0) + plain("t", "warm", 0));
        x.far(3, 5, 3);
        x.read(0, 5, 1, 11);
        x.far(2, 11, 7);
        x.read(1, 10, 0, 9);
        x.read(1, 11, 2, 9);
        x.far(2, 20, 7);
        x.far(0, 20, 30);
        x.read(1, 20, 3, 30);
        x.read(2, 20, 0, 7);
        x.far(2, 30, 8);
        x.read(1, 30, 4, 4);
        x.far(2, 40, 8);
        x.read(1, 40, 5, 50);
        x.far(2, 50, 8);
        x.read(1, 50, 6, 8);
        int[][] spots = {{0, 5}, {1, 11}, {1, 20}, {1, 30}, {1, 40}, {1, 50}};
        for (int reader = 0; reader < 7; reader++) {
            x.doubt(reader, reader > 0);
        }
        for (int reader = 1; reader < 7; reader++) {
            x.doubt(reader, false);
            int kind = reader == 6 ? 0 : reader;
            Check.due("21: kind " + kind, x.wrong(spots[reader - 1][0], spots[reader - 1][1], 0), kind);
            x.doubt(0, true);
            habit(x, "WRONG by kind " + kind + " or, without the other one's READING, by 5", reader, kind > 0 ? 1 : 0);
            x.doubt(0, false);
            x.doubt(reader, true);
        }
    }

    /** The READING that was TOLD last is its reader's; one whose place it took is nobody's. */
    private static void habitOfTheLast() {
        GreyBoxes x = with(plain("a", "warm", 0));
        x.far(0, 0, 5);
        x.read(0, 0, 3, 6);
        x.read(0, 0, 4, 5);
        habit(x, "the later one counts alone", 4, 0);
        x.untell(2);
        habit(x, "the earlier one counts", 3, 1);
    }

    private static void right(GreyBoxes x, String why, int day, int least, int greatest) {
        Check.due("23: " + why + ", least", x.right(0, day, false, 0), least);
        Check.due("23: " + why + ", greatest", x.right(0, day, true, 0), greatest);
    }

    private static void ends(String quantity, int least, int most) {
        GreyBoxes x = with(plain("a", quantity, 2));
        int[] numbers = {least - 3, least - 2, least, most, most + 2, most + 3, -999, 999};
        int[][] spans = {{GAP, GAP}, {least, least}, {least, least + 2}, {most - 2, most}, {most, most}, {GAP, GAP}, {GAP, GAP}, {GAP, GAP}};
        for (int i = 0; i < numbers.length; i++) {
            x.read(0, 5, 0, numbers[i]);
            right(x, quantity + " " + numbers[i], 5, spans[i][0], spans[i][1]);
        }
    }

    private static void rights() {
        ends("warm", -20, 40);
        ends("damp", 0, 100);
        ends("rain", 0, 99);
        GreyBoxes x = with(box("a", "damp", "0 to 0", "8 to 8", "0 to 0", 0));
        int[] lows = {0, 2, 3, 4, 5, 7, 8, 9, 10};
        int[] highs = {1, 2, 3, 4, 6, 7, 8, 9, 11};
        for (int i = 0; i < lows.length; i++) {
            x.read(0, 5, 0, i);
            right(x, "by slope 8, " + i, 5, lows[i], highs[i]);
        }
        GreyBoxes y = with(box("a", "warm", "0 to 0", "12 to 12", "0 to 0", 0));
        y.read(0, 5, 0, 5);
        right(y, "by slope 12 no T SHOWS 5", 5, GAP, GAP);
        y.read(0, 5, 0, 6);
        right(y, "by slope 12", 5, 5, 5);
        y.read(0, 5, 0, -1);
        right(y, "by slope 12 no T SHOWS -1", 5, GAP, GAP);
        y.read(0, 5, 0, -2);
        right(y, "by slope 12 below 0", 5, -1, -1);
        GreyBoxes z = with(box("a", "warm", "0 to 0", "9 to 9", "0 to 0", 0));
        z.read(0, 5, 0, -1);
        right(z, "by slope 9 below 0", 5, -1, -1);
        z.read(0, 5, 0, 0);
        right(z, "by slope 9", 5, 0, 1);
        z.read(0, 5, 0, -9);
        right(z, "by slope 9 below 0", 5, -10, -9);
    }

    private static void rightsOfWind() {
        GreyBoxes x = with(plain("a", "wind", 1));
        for (int number = 0; number < 16; number++) {
            x.read(0, 5, 0, number);
            boolean round = number == 0 || number == 15;
            right(x, "wind " + number, 5, round ? 0 : number - 1, round ? 15 : number + 1);
        }
        GreyBoxes y = with(plain("a", "wind", 9));
        y.read(0, 5, 0, 8);
        right(y, "wind, all FIT", 5, 0, 15);
        GreyBoxes z = with(Check.box("a", "wind", "-5 to -5", 0));
        z.read(0, 5, 0, 15);
        right(z, "wind, goes round", 5, 4, 4);
        z.read(0, 5, 0, 10);
        right(z, "wind, goes round", 5, 15, 15);
        z.read(0, 5, 0, 11);
        right(z, "wind, goes round", 5, 0, 0);
    }

    private static void rightsByLag() {
        for (int lag = 0; lag <= 2; lag++) {
            GreyBoxes x = with(box("a", "warm", "0 to 0", "10 to 10", lag + " to " + lag, 0));
            x.read(0, 59, 0, 9);
            x.read(0, lag, 0, 8);
            right(x, "of lag " + lag + " for the last", 59 - lag, 9, 9);
            right(x, "of lag " + lag + " for the first", 0, 8, 8);
            right(x, "of lag " + lag + " beyond the last", 60 - lag, GAP, GAP);
            right(x, "of lag " + lag + " for no READING", 30, GAP, GAP);
        }
        GreyBoxes x = with(box("a", "warm", "0 to 0", "10 to 10", "0 to 2", 0) + "moved a on 20;broken a 30 to 30;holiday 31 to 31;");
        for (int day : new int[] {18, 19, 20, 30, 31, 32}) {
            x.read(0, day, 0, day);
        }
        right(x, "by three lags, over the move", 18, 18, 20);
        right(x, "by one lag", 17, 18, 19);
        right(x, "by one lag", 16, 18, 18);
        right(x, "broken and holiday", 30, 32, 32);
        x.share(20, true);
        x.far(0, 20, 20);
        x.far(0, 19, 7);
        x.far(0, 18, 7);
        right(x, "by the LAWS of the STRETCH behind lag 0 alone is left", 18, 18, 19);
        right(x, "of the later STRETCH lag 0", 20, 20, 20);
        Check.due("23: not known", x.right(0, 18, true, -1), GAP);
        x.doubt(0, true);
        right(x, "by one who is DOUBTED", 20, GAP, GAP);
    }

    private static void rightsByAge() {
        GreyBoxes x = with("box a rain zero 2 to 2 slope 10 to 10 lag 0 to 1 tire 3 to 3 off 0;fresh a on 40;");
        x.read(0, 39, 0, 50);
        right(x, "by the AGE of the READING's DAY", 39, 50 - 2 - 11, 50 - 2 - 11);
        x.read(0, 40, 0, 50);
        right(x, "by both AGES", 39, 37, 48);
        right(x, "by the AGE of the READING's DAY", 40, 48, 48);
    }

    private static void rightsThatCannotBe() {
        for (int day : NO_DAYS) {
            Scene.untouchedBy("23: no DAY", y -> {
                Check.due("23: no DAY " + day, y.right(0, day, false, 7), GAP);
                Check.due("23: no DAY " + day, y.right(0, day, true, 7), GAP);
            });
        }
        for (int box : NO_BOXES) {
            Scene.untouchedBy("23: no BOX", y -> {
                Check.due("23: no BOX " + box, y.right(box, 0, false, 7), GAP);
                Check.due("23: no BOX " + box, y.right(box, 0, true, 7), GAP);
            });
        }
        Scene.untouchedBy("23: asking", y -> y.right(0, 3, true, 5));
    }

    private static void sums() {
        GreyBoxes x = with(plain("a", "warm", 1));
        x.read(0, 0, 0, 5);
        x.read(0, 3, 0, -7);
        x.read(0, 59, 0, 11);
        x.read(0, 30, 0, 500);
        int[][] want = {{0, 59, 6, 12, 57}, {0, 0, 4, 6, 0}, {59, 59, 10, 12, 0}, {1, 1, 0, 0, 1}, {0, 3, -4, 0, 2}, {1, 2, 0, 0, 2},
            {3, 59, 2, 6, 55}, {30, 30, 0, 0, 1}};
        for (int[] w : want) {
            for (int what = 0; what < 3; what++) {
                Check.due("24: from " + w[0] + " to " + w[1] + ", what " + what, x.sum(0, w[0], w[1], what, 0), w[2 + what]);
            }
        }
        Check.due("24: not known, all are GAPS", x.sum(0, 0, 59, 2, -1), 60);
        Check.due("24: not known", x.sum(0, 0, 59, 0, -1), 0);
        for (int what = 0; what < 3; what++) {
            Check.due("24: to below from", x.sum(0, 1, 0, what, 0), GAP);
            Check.due("24: to below from", x.sum(0, 59, 58, what, 0), GAP);
            Check.due("24: to above the last DAY", x.sum(0, 59, 60, what, 0), GAP);
            Check.due("24: from below the first DAY", x.sum(0, -1, 0, what, 0), GAP);
            Check.due("24: from, to above", x.sum(0, 60, 60, what, 0), GAP);
            Check.due("24: from, to below", x.sum(0, -1, -1, what, 0), GAP);
            Check.due("24: no BOX", x.sum(1, 0, 0, what, 0), GAP);
            Check.due("24: no BOX", x.sum(-1, 0, 0, what, 0), GAP);
            Check.due("24: strange", x.sum(0, Integer.MIN_VALUE, Integer.MAX_VALUE, what, 0), GAP);
        }
        for (int what : new int[] {-1, 3, 4, Integer.MIN_VALUE, Integer.MAX_VALUE}) {
            Check.due("24: another what, " + what, x.sum(0, 0, 59, what, 0), GAP);
            Scene.untouchedBy("24: another what", y -> y.sum(0, 0, 59, what, 7));
        }
        Scene.untouchedBy("24: to below from", y -> y.sum(0, 5, 4, 0, 7));
        Scene.untouchedBy("24: asking", y -> y.sum(0, 0, 59, 0, 5));
    }

    private static void sures() {
        GreyBoxes x = with(plain("a", "warm", 1) + "holiday 30 to 30;");
        Check.due("25: none has any", x.sure(0, 0, 59, 0), NONE);
        x.read(0, 59, 0, 10);
        x.read(0, 30, 0, 5);
        Check.due("25: no other has any", x.sure(0, 0, 59, 0), NONE);
        x.read(0, 0, 0, 9);
        Check.due("25: less than the greatest of the other by one", x.sure(0, 0, 59, 0), NONE);
        x.read(0, 0, 0, 8);
        Check.due("25: no less than the greatest of the other", x.sure(0, 0, 59, 0), 59);
        x.read(0, 0, 0, 12);
        Check.due("25: the first DAY", x.sure(0, 0, 59, 0), 0);
        Check.due("25: the last alone", x.sure(0, 1, 59, 0), NONE);
        Check.due("25: the first alone", x.sure(0, 0, 58, 0), NONE);
        x.read(0, 20, 0, 11);
        Check.due("25: one of three is too near", x.sure(0, 0, 59, 0), NONE);
        x.read(0, 20, 0, 4);
        Check.due("25: above both", x.sure(0, 0, 59, 0), 0);
        Check.due("25: of a part", x.sure(0, 20, 59, 0), 59);
        Check.due("25: of a part, its last DAY", x.sure(0, 0, 20, 0), 0);
        Check.due("25: one DAY", x.sure(0, 20, 20, 0), NONE);
        Check.due("25: not known", x.sure(0, 0, 59, -1), NONE);
        Check.due("25: to below from", x.sure(0, 59, 0, 0), NONE);
        Check.due("25: to below from", x.sure(0, 20, 19, 0), NONE);
        Check.due("25: no DAY", x.sure(0, 0, 60, 0), NONE);
        Check.due("25: no DAY", x.sure(0, -1, 59, 0), NONE);
        Check.due("25: no BOX", x.sure(1, 0, 59, 0), NONE);
        Check.due("25: no BOX", x.sure(-1, 0, 59, 0), NONE);
        GreyBoxes y = with(plain("a", "warm", 0));
        y.read(0, 7, 0, -4);
        y.read(0, 2, 0, -4);
        Check.due("25: the first of like ones, below 0", y.sure(0, 0, 59, 0), 2);
        Check.due("25: the first of like ones", y.sure(0, 3, 59, 0), NONE);
        y.read(0, 9, 0, -20);
        y.read(0, 10, 0, -19);
        Check.due("25: near the least", y.sure(0, 9, 10, 0), 10);
        Scene.untouchedBy("25: to below from", z -> z.sure(0, 5, 4, 7));
        Scene.untouchedBy("25: asking", z -> z.sure(0, 0, 59, 5));
    }

    private static void lies() {
        GreyBoxes x = with(plain("a", "damp", 1) + plain("b", "damp", 1) + plain("c", "damp", 1) + plain("d", "damp", 1) + plain("e", "rain", 1));
        int[] days = {0, 59};
        for (int day : days) {
            x.read(0, day, 0, 50);
            x.read(1, day, 0, 52);
            Check.due("26: but two have any", x.lies(1, day, 0), NONE);
            x.read(4, day, 0, 70);
            Check.due("26: another QUANTITY", x.lies(1, day, 0), NONE);
            x.read(2, day, 0, 55);
            Check.due("26: they meet neither, who meet at 51", x.lies(1, day, 0), 2);
            x.read(2, day, 0, 54);
            Check.due("26: it meets one, at 53", x.lies(1, day, 0), NONE);
            x.read(2, day, 0, 47);
            Check.due("26: below both", x.lies(1, day, 0), 2);
            x.read(2, day, 0, 48);
            Check.due("26: it meets one, at 49", x.lies(1, day, 0), NONE);
            x.read(1, day, 0, 53);
            x.read(2, day, 0, 60);
            Check.due("26: the two do not meet", x.lies(1, day, 0), NONE);
            x.read(3, day, 0, 60);
            Check.due("26: the first of two that lie beside them", x.lies(1, day, 0), 0);
            x.read(0, day, 0, 52);
            Check.due("26: two against two", x.lies(1, day, 0), 0);
            x.read(2, day, 0, 200);
            Check.due("26: one without any", x.lies(1, day, 0), 3);
        }
        Check.due("26: on another DAY", x.lies(1, 30, 0), NONE);
        Check.due("26: of another QUANTITY", x.lies(2, 0, 0), NONE);
        Check.due("26: not known", x.lies(1, 0, -1), NONE);
        for (int day : NO_DAYS) {
            Check.due("26: no DAY " + day, x.lies(1, day, 0), NONE);
            Scene.untouchedBy("26: no DAY", y -> y.lies(0, day, 7));
        }
        for (int q : new int[] {-1, 4, 5, Integer.MIN_VALUE, Integer.MAX_VALUE}) {
            Check.due("26: no QUANTITY " + q, x.lies(q, 0, 0), NONE);
            Scene.untouchedBy("26: no QUANTITY", y -> y.lies(q, 0, 7));
        }
        Scene.untouchedBy("26: asking", y -> y.lies(0, 3, 5));
    }

    private static void liesOfEachQuantity() {
        String[] kinds = {"warm", "damp", "rain", "wind"};
        for (int q = 0; q < 4; q++) {
            GreyBoxes x = with(plain("a", kinds[q], 0) + plain("b", kinds[q], 0) + plain("c", kinds[q], 0));
            x.read(0, 5, 0, 9);
            x.read(1, 5, 0, 8);
            x.read(2, 5, 0, 9);
            for (int other = 0; other < 4; other++) {
                Check.due("26: of " + kinds[q] + " asked for " + other, x.lies(other, 5, 0), other == q ? 1 : NONE);
            }
        }
    }

    private static void nexts() {
        Check.due("27: without BOXES", new GreyBoxes().next(0), NONE);
        Check.due("27: one BOX with one LAW", with(plain("a", "warm", 0)).next(0), 0);
        Check.due("27: like ones", with(plain("a", "warm", 0) + plain("b", "warm", 0)).next(0), 0);
        GreyBoxes x = with(plain("a", "warm", 0) + Check.box("b", "warm", "0 to 1", 0) + Check.box("c", "warm", "3 to 4", 0)
            + Check.box("d", "warm", "0 to 0", 0) + Check.box("e", "warm", "-5 to -3", 0) + "moved e on 59;moved b on 30;");
        Check.due("27: the last BOX", x.next(0), 4);
        x.far(0, 58, 20);
        x.read(4, 58, 0, 15);
        x.share(58, true);
        Check.due("27: not of a STRETCH that is not its last", x.next(0), 4);
        x.far(0, 59, 20);
        x.read(4, 59, 0, 15);
        x.share(59, true);
        Check.due("27: fewer in its last STRETCH", x.next(0), 1);
        x.read(1, 29, 0, 20);
        x.far(0, 29, 20);
        x.share(29, true);
        Check.due("27: the first of like ones still", x.next(0), 1);
        x.read(1, 58, 0, 20);
        Check.due("27: fewer of that one, too", x.next(0), 2);
        Check.due("27: as known ahead of all", x.next(-1), 4);
        Scene.untouchedBy("27: asking", y -> y.next(5));
        Scene.untouchedBy("27: asking, ahead of all", y -> y.next(Integer.MIN_VALUE));
    }

    public static void main(String[] args) {
        tails();
        tailsNearTheHalf();
        copies();
        rows();
        rowsOfWind();
        rowsOfNothing();
        twices();
        wrongOrNone();
        habits();
        habitByEachKind();
        habitOfTheLast();
        rights();
        rightsOfWind();
        rightsByLag();
        rightsByAge();
        rightsThatCannotBe();
        sums();
        sures();
        lies();
        liesOfEachQuantity();
        nexts();
        Check.finish();
    }
}
