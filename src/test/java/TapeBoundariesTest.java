/** Promises 1 to 3: the edges of a new object and of the TAPE. */
public final class TapeBoundariesTest {
    private static final int NONE = GreyBoxes.NONE;
    private static final int GAP = GreyBoxes.GAP;
    private static final int BLANKS = 0x20202020;

    private TapeBoundariesTest() {
    }

    private static GreyBoxes blanks(int bytes) {
        GreyBoxes x = new GreyBoxes();
        for (int n = 0; n < bytes; n += 20) {
            x.feed(BLANKS, BLANKS, BLANKS, BLANKS, BLANKS);
        }
        x.end(bytes);
        return x;
    }

    private static void newIsEmpty() {
        GreyBoxes x = new GreyBoxes();
        Check.due("NONE", NONE, -1);
        Check.due("GAP", GAP, -100000);
        for (int what = 0; what <= 7; what++) {
            Check.due("1: new, about(" + what + ")", x.about(what), 0);
        }
        Check.due("1: no BOX can be read", x.read(0, 0, 0, 0), NONE);
        Check.due("1: no BOX has LAWS", x.laws(0, 0, 0), NONE);
        Check.due("1: no BOX is NEXT", x.next(0), NONE);
        Check.due("1: no RULE says", x.says(0, 0), NONE);
        Check.due("1: no RULE is there", x.rule(0, 0, 0), NONE);
        Check.due("1: no FAULT", x.fault(0), 0);
        Check.due("1: no place of a FAULT", x.fault(1), NONE);
        Check.due("1: no FACT to untell", x.untell(0), false);
        Check.due("1: the TIME is 0", x.later(0), 0);
        Check.due("1: no byte on the TAPE", x.end(1), NONE);
        Check.due("1: an empty TAPE ends at 0", x.end(0), 0);
        Check.due("1: FAR needs no BOX", x.far(3, 59, 15), 0);
        for (int day = 0; day < 60; day++) {
            Check.due("1: no DAY is SHARED, " + day, x.share(day, false), false);
        }
        for (int reader = 0; reader < 10; reader++) {
            Check.due("1: none is DOUBTED, " + reader, x.doubt(reader, false), false);
        }
    }

    /** One byte that is no TOKEN among blanks: its place tells where each byte of a feed goes. */
    private static void eachByteHasItsPlace() {
        for (int place = 0; place < 40; place++) {
            GreyBoxes x = new GreyBoxes();
            for (int feed = 0; feed < 2; feed++) {
                int[] w = {BLANKS, BLANKS, BLANKS, BLANKS, BLANKS};
                if (place / 20 == feed) {
                    w[place % 20 / 4] ^= (0x20 ^ 0xFF) << 24 - 8 * (place % 4);
                }
                Check.due("2: how many there are", x.feed(w[0], w[1], w[2], w[3], w[4]), 20 * (feed + 1));
            }
            Check.due("2: the byte at " + place + " is no TOKEN", x.hill(), NONE);
            Check.due("2: FAULT of the byte at " + place, x.fault(0), 1);
            Check.due("2: place of the byte at " + place, x.fault(1), place);
        }
    }

    private static void fullTape() {
        GreyBoxes x = blanks(780);
        Check.due("2: 800 bytes at most: the last twenty", x.feed(BLANKS, BLANKS, BLANKS, BLANKS, BLANKS), 800);
        Check.due("2: 800 bytes are THE HILL, too", x.hill(), 0);
        for (int n = 781; n <= 800; n++) {
            GreyBoxes y = blanks(n);
            Check.due("2: there would be more than 800 by " + (n - 780), y.feed(-1, -1, -1, -1, -1), NONE);
            Check.due("2: nothing comes to " + n, y.about(6), n);
            Check.due("2: nothing was written to " + n, y.hill(), 0);
        }
    }

    /** A text behind which all of the TAPE is full: its end is read as any other. */
    private static void hillOf800Bytes() {
        String text = " ".repeat(788) + "made 5 to 5;";
        GreyBoxes x = new GreyBoxes();
        Check.due("4: a line that ends at byte 800", Check.hill(x, text), 1);
        Check.due("4: cut at 799", Check.hill(x, text.substring(0, 799)), NONE);
        Check.due("4: its place is the text's length", x.fault(1), 799);
        Check.due("4: ends at 800 without a ;", Check.hill(x, " " + text.substring(0, 799)), NONE);
        Check.due("4: its place is 800", x.fault(1), 800);
    }

    private static void endCuts() {
        GreyBoxes x = new GreyBoxes();
        Check.tape(x, "made 0 to 1;$");
        Check.due("3: one more than it has", x.end(14), NONE);
        Check.due("3: below 0", x.end(-1), NONE);
        Check.due("3: far below 0", x.end(Integer.MIN_VALUE), NONE);
        Check.due("3: far above", x.end(Integer.MAX_VALUE), NONE);
        Check.due("3: doing nothing", x.about(6), 13);
        Check.due("3: as many as it has", x.end(13), 13);
        Check.due("3: one less", x.end(12), 12);
        Check.due("3: what was cut is gone", x.end(13), NONE);
        Check.due("3: the first bytes are there", x.hill(), 1);
        Check.tape(x, "made 0 to 1;$");
        x.end(12);
        Check.due("3: bytes come behind the cut", x.feed(0x20242020, BLANKS, BLANKS, BLANKS, BLANKS), 32);
        Check.due("3: bytes come behind the cut", x.hill(), NONE);
        Check.due("3: there", x.fault(1), 13);
        Check.tape(x, "$");
        Check.due("3: none are left", x.end(0), 0);
        Check.due("3: of none there is no FAULT", x.hill(), 0);
        Check.due("3: the empty TAPE after a hill", x.end(1), NONE);
    }

    private static void refusedCallsDoNothing() {
        Scene.untouchedBy("3: end(-1)", x -> Check.due("3: end(-1)", x.end(-1), NONE));
        Scene.untouchedBy("3: end beyond", x -> Check.due("3: end beyond", x.end(Scene.ON_TAPE.length() + 1), NONE));
        for (int n = 781; n <= 800; n += 19) {
            GreyBoxes x = Scene.make();
            GreyBoxes y = Scene.make();
            Check.tape(x, " ".repeat(n));
            Check.tape(y, " ".repeat(n));
            Check.due("2: refused feed", x.feed(0, 0, 0, 0, 0), NONE);
            Check.due("2: a refused feed changes nothing", Scene.view(x).equals(Scene.view(y)), true);
        }
    }

    public static void main(String[] args) {
        newIsEmpty();
        eachByteHasItsPlace();
        fullTape();
        hillOf800Bytes();
        endCuts();
        refusedCallsDoNothing();
        Check.finish();
    }
}
