/** Each promise of the document: ordinary inputs, the edges that it names, and wrong inputs. */
public final class PromisesTest {
    private static final int NONE = GreyBoxes.NONE;
    private static final int GAP = GreyBoxes.GAP;
    private static final int[] STRANGE = {Integer.MIN_VALUE, -1000, -2, Integer.MAX_VALUE, 100000};

    private PromisesTest() {
    }

    private static void due(String call, long got, long want) {
        Check.due(call, got, want);
    }

    private static void due(String call, boolean got, boolean want) {
        Check.due(call, got, want);
    }

    private static String many(String part, int n) {
        return part.repeat(n);
    }

    private static GreyBoxes with(String hill) {
        GreyBoxes x = new GreyBoxes();
        due("hill of " + hill, x.fault(0) == 0 && Check.hill(x, hill) >= 0, true);
        return x;
    }

    private static String plain(String name, String quantity) {
        return Check.box(name, quantity, "0 to 0", 0);
    }

    private static void newObject() {
        GreyBoxes x = new GreyBoxes();
        for (int what = 0; what <= 7; what++) {
            due("1: about(" + what + ")", x.about(what), 0);
        }
        due("1: fault(0)", x.fault(0), 0);
        due("1: fault(1)", x.fault(1), NONE);
        due("1: hill() of nothing", x.hill(), 0);
        due("1: rules() of nothing", x.rules(), 0);
    }

    private static void feedAndEnd() {
        GreyBoxes x = new GreyBoxes();
        for (int n = 20; n <= 800; n += 20) {
            due("2: feed", x.feed(0x20202020, 0x20202020, 0x20202020, 0x20202020, 0x20202020), n);
        }
        due("2: feed above 800", x.feed(0, 0, 0, 0, 0), NONE);
        due("2: nothing came", x.about(6), 800);
        due("3: end of all", x.end(800), 800);
        due("3: end beyond", x.end(801), NONE);
        due("3: end below 0", x.end(-1), NONE);
        due("3: nothing went", x.about(6), 800);
        due("3: end", x.end(781), 781);
        due("2: feed above 800 by one", x.feed(0, 0, 0, 0, 0), NONE);
        due("3: end", x.end(780), 780);
        due("2: feed to 800", x.feed(0x20202020, 0x20202020, 0x20202020, 0x20202020, 0x2020200A), 800);
        due("4: blanks alone", x.hill(), 0);
        due("4: the TAPE is empty", x.about(6), 0);
        x.feed(0x6D616465, 0x20302074, 0x6F20353B, 0x24242424, 0);
        x.end(12);
        due("2: highest byte first", x.hill(), 1);
        due("3: end(0)", x.end(0), 0);
    }

    private static void hillFault(String text, int kind, int place) {
        GreyBoxes x = with(plain("kept", "rain") + "made 1 to 1;");
        x.far(0, 3, 7);
        due("4: hill of " + text, Check.hill(x, text), NONE);
        due("4: its FAULT, of " + text, x.fault(0), kind);
        due("4: its place, of " + text, x.fault(1), place);
        due("4: BOXES stay", x.about(0), 1);
        due("4: lines stay", x.about(1), 1);
        due("4: FACTS stay", x.farOf(0, 3, 0), 7);
        due("4: the TAPE is empty", x.about(6), 0);
    }

    private static void hillFaults() {
        String box = "box a warm zero 0 to 0 slope 10 to 10 lag 0 to 0 tire 0 to 0 off 0;";
        hillFault("$", 1, 0);
        hillFault(" A", 1, 1);
        hillFault("made 0 to 1; " + (char) 233, 1, 13);
        hillFault("made 0 to 1;\t", 1, 12);
        hillFault("made 0 to 1<", 1, 11);
        hillFault("made 0to 1;", 1, 5);
        hillFault("made 00000 to 1;", 1, 5);
        hillFault("box abcdefghi", 1, 4);
        hillFault("x", 2, 0);
        hillFault(";", 2, 0);
        hillFault("made", 2, 4);
        hillFault("made  ", 2, 6);
        hillFault("made 0 to 1", 2, 11);
        hillFault("made -1", 2, 5);
        hillFault("madeup 0", 2, 0);
        hillFault("if", 2, 0);
        hillFault("box 5", 2, 4);
        hillFault("box not", 2, 4);
        hillFault("box a zero", 2, 6);
        hillFault("box a warm slope", 2, 11);
        hillFault("box a warm zero - 6", 4, 16);
        hillFault("box a warm zero - - 6", 2, 18);
        hillFault("box a warm zero -", 2, 17);
        hillFault("box a warm zero 0 to -1", 4, 21);
        hillFault("box a warm zero -5 to 6", 4, 22);
        hillFault("box a warm zero 0 to 0 slope -8", 2, 29);
        hillFault("box a warm zero 0 to 0 slope 7", 4, 29);
        hillFault("box a warm zero 0 to 0 slope 8 to 13", 4, 34);
        hillFault("box a wind zero 0 to 0 slope 10 to 11", 4, 35);
        hillFault("box a warm zero 0 to 0 slope 10 to 10 lag 3", 4, 42);
        hillFault("box a warm zero 0 to 0 slope 10 to 10 lag 1 to 0", 4, 47);
        hillFault("box a warm zero 0 to 0 slope 10 to 10 lag 0 to 0 tire 4", 4, 54);
        hillFault("box a warm zero 0 to 0 slope 10 to 10 lag 0 to 0 tire 0 to 0 off 10", 4, 65);
        hillFault(box + "box a", 3, 71);
        hillFault(box + "moved b", 5, 73);
        hillFault("fresh a", 5, 6);
        hillFault("broken a", 5, 7);
        hillFault(box + "moved a on 0", 4, 78);
        hillFault(box + "fresh a on 60", 4, 78);
        hillFault(box + "broken a 5 to 4", 4, 81);
        hillFault("holiday 60", 4, 8);
        hillFault("made 9 to 8;", 4, 10);
        hillFault(many("made 0 to 1;", 16) + " made", 2, 193);
        String boxes = "";
        for (char c = 'a'; c < 'f'; c++) {
            boxes += "box " + c + " wind zero 0 to 0 slope 10 to 10 lag 0 to 0 tire 0 to 0 off 0;";
        }
        hillFault(boxes + "box a", 2, boxes.length());
        hillFault("box a warm zero -6x", 1, 17);
    }

    private static void hillKept() {
        GreyBoxes x = new GreyBoxes();
        due("4: lines without blanks", Check.hill(x, "box a warm zero-5 to5"
            + " slope 8 to 0012 lag\n0 to 2 tire 0 to 3 off 9;moved a on 59;fresh a on 1;broken a 0 to 59;holiday 5 to 5;made 0 to 0;"), 6);
        due("6: no FAULT", x.fault(0), 0);
        due("6: no place", x.fault(1), NONE);
        due("4: all laws", x.laws(0, 0, 0), 660);
        x.later(5);
        x.far(0, 0, 0);
        x.share(0, true);
        x.doubt(4, true);
        Check.rules(x, "if 1 say wet;");
        due("4: RULES", x.about(4), 1);
        due("4: a FAULT keeps all", Check.hill(x, "hm"), NONE);
        due("4: a FAULT keeps RULES", x.about(4), 1);
        due("4: a FAULT keeps those DOUBTED", x.about(7), 16);
        due("4: hill anew", Check.hill(x, plain("q", "wind")), 1);
        due("4: no FACTS", x.about(2), 0);
        due("4: no SHARED DAYS", x.about(5), 0);
        due("4: no RULES", x.about(4), 0);
        due("4: none DOUBTED", x.about(7), 0);
        due("4: the TIME goes on", x.about(3), 5);
        due("4: other lines", x.about(1), 0);
        due("4: far is forgotten", x.farOf(0, 0, 5), GAP);
        due("4: share is forgotten", x.share(0, true), true);
        due("4: 16 other lines", Check.hill(x, many("made 0 to 1;", 16)), 16);
    }

    private static void rulesFault(String text, int kind, int place) {
        GreyBoxes x = with(plain("a", "warm"));
        Check.rules(x, "if 1 say wet;");
        due("5: rules of " + text, Check.rules(x, text), NONE);
        due("5: its FAULT, of " + text, x.fault(0), kind);
        due("5: its place, of " + text, x.fault(1), place);
        due("5: those there are stay", x.says(0, 0), 1);
        due("5: the TAPE is empty", x.about(6), 0);
    }

    private static void rulesFaults() {
        rulesFault("if 1 say wet; say", 2, 14);
        rulesFault("if wet", 2, 3);
        rulesFault("if -1", 2, 3);
        rulesFault("if 1 + not 1", 2, 7);
        rulesFault("if 1 < not 1", 2, 7);
        rulesFault("if 1 = 2 = 3", 2, 9);
        rulesFault("if ()", 2, 4);
        rulesFault("if (1", 2, 5);
        rulesFault("if 1)", 2, 4);
        rulesFault("if 1 1", 2, 5);
        rulesFault("if last", 2, 7);
        rulesFault("if last day", 2, 8);
        rulesFault("if last b", 5, 8);
        rulesFault("if a b", 2, 5);
        rulesFault("if b", 5, 3);
        rulesFault("if 12345", 1, 3);
        rulesFault("if 1a", 1, 3);
        rulesFault("if 1 say maybe", 2, 9);
        rulesFault("if 1 say wet;if b", 5, 16);
        rulesFault("if 1 # 2", 1, 5);
        rulesFault("box a", 2, 0);
        rulesFault(many("if 1 say dry;", 6) + "if", 2, 78);
        rulesFault("if " + many("not ", 8) + "1", 2, 31);
        rulesFault("if " + many("(", 4) + many("not ", 4) + "1", 2, 19);
        rulesFault("if " + many("not ", 7) + "(1", 2, 31);
        rulesFault("if " + many("1+", 60) + "1", 2, 123);
        rulesFault("if " + many("1+", 60) + "b", 2, 123);
        rulesFault("if " + many("1+", 60) + "$", 1, 123);
        rulesFault("if (" + many("1+", 59) + "1", 2, 122);
        rulesFault("if 1 say wet;if " + many("1+", 59) + "1", 2, 134);
    }

    private static void rulesKept() {
        GreyBoxes x = with(plain("a", "warm"));
        due("5: 60 units", Check.rules(x, "if " + many("1+", 59) + "1=60 say wet;"), NONE);
        due("5: of them the 61st", x.fault(1), 123);
        due("5: 60 units", Check.rules(x, "if " + many("1+", 58) + "1=59 say wet;"), 1);
        due("5: their sum", x.says(0, 0), 1);
        due("5: within 6 others", Check.rules(x, "if " + many("(", 7) + "1" + many(")", 7) + " say dry;"), 1);
        due("5: within 6 others", x.says(0, 0), 0);
        due("5: not within 6 others", Check.rules(x, "if " + many("not ", 7) + "0 say wet;"), 1);
        due("5: seven nots", x.says(0, 0), 1);
        due("5: six rules", Check.rules(x, many("if 0 say dry;", 5) + "if 1 say wet;"), 6);
        due("5: the sixth", x.says(0, 0), 1);
        Check.tape(x, "if 1 say dry;" + many(" ", 488));
        due("5: 501 bytes", x.rules(), -2);
        due("5: the TAPE stays", x.about(6), 501);
        due("5: RULES stay", x.about(4), 6);
        x.end(500);
        due("5: 500 bytes", x.rules(), 1);
        due("5: none", x.rules(), 0);
        due("5: none says", x.says(0, 0), NONE);
    }

    private static void faults() {
        GreyBoxes x = new GreyBoxes();
        Check.hill(x, "made 0 to 60;");
        Check.tape(x, many(" ", 501));
        due("6: -2", x.rules(), -2);
        due("6: -2 is passed over", x.fault(0), 4);
        due("6: -2 is passed over", x.fault(1), 10);
        due("6: another what", x.fault(2), NONE);
        due("6: another what", x.fault(-1), NONE);
        x.end(0);
        x.rules();
        due("6: no FAULT now", x.fault(0), 0);
        due("6: no place now", x.fault(1), NONE);
    }

    private static void tellings() {
        GreyBoxes x = with(plain("a", "warm") + plain("w", "wind"));
        due("7: share", x.share(59, true), true);
        due("7: already", x.share(59, true), false);
        due("7: no more", x.share(59, false), true);
        due("7: not already", x.share(59, false), false);
        due("7: day 60", x.share(60, true), false);
        due("7: day -1", x.share(-1, false), false);
        due("7: day 64", x.share(64, true), false);
        int[][] ends = {{-20, 40}, {0, 100}, {0, 99}, {0, 15}};
        for (int q = 0; q < 4; q++) {
            due("8: least", x.far(q, 59, ends[q][0]), 2 * q);
            due("8: greatest", x.far(q, 0, ends[q][1]), 2 * q + 1);
            due("8: below", x.far(q, 0, ends[q][0] - 1), NONE);
            due("8: above", x.far(q, 0, ends[q][1] + 1), NONE);
        }
        due("8: day", x.far(0, 60, 0), NONE);
        due("8: day", x.far(0, -1, 0), NONE);
        due("8: quantity", x.far(4, 0, 0), NONE);
        due("8: quantity", x.far(-1, 0, 0), NONE);
        due("9: least", x.read(0, 0, 0, -999), 8);
        due("9: greatest", x.read(0, 59, 9, 999), 9);
        due("9: below", x.read(0, 0, 0, -1000), NONE);
        due("9: above", x.read(0, 0, 0, 1000), NONE);
        due("9: wind below", x.read(1, 0, 0, -1), NONE);
        due("9: wind above", x.read(1, 0, 0, 16), NONE);
        due("9: wind", x.read(1, 0, 0, 15), 10);
        due("9: reader", x.read(0, 0, 10, 0), NONE);
        due("9: reader", x.read(0, 0, -1, 0), NONE);
        due("9: box", x.read(2, 0, 0, 0), NONE);
        due("9: box", x.read(-1, 0, 0, 0), NONE);
        due("9: day", x.read(0, 60, 0, 0), NONE);
        for (int i = 11; i < 300; i++) {
            due("8: up to 300", x.far(0, 0, 0), i);
        }
        due("8: 300", x.far(0, 0, 0), NONE);
        due("9: 300", x.read(0, 0, 0, 0), NONE);
        due("11: the last", x.untell(299), true);
        due("8: 300, one UNTOLD", x.far(0, 0, 0), NONE);
        due("33: FACTS", x.about(2), 300);
    }

    private static void doubtsAndTime() {
        GreyBoxes x = with(plain("a", "warm"));
        due("10: doubt", x.doubt(9, true), true);
        due("10: already", x.doubt(9, true), false);
        due("10: not yet", x.doubt(0, false), false);
        due("10: reader 10", x.doubt(10, true), false);
        due("10: reader -1", x.doubt(-1, true), false);
        due("10: reader 32", x.doubt(32, true), false);
        x.read(0, 1, 0, 5);
        x.read(0, 1, 9, 6);
        due("10: one DOUBTED does not count", x.reading(0, 1, 0), 5);
        due("10: no more", x.doubt(9, false), true);
        due("10: counts again", x.reading(0, 1, 0), 6);
        due("11: untell below 0", x.untell(-1), false);
        due("11: untell none such", x.untell(2), false);
        due("12: below 0", x.later(-1), NONE);
        due("12: above 1000", x.later(1001), NONE);
        due("12: 0", x.later(0), 0);
        due("12: 1000", x.later(1000), 1000);
        due("11: untell", x.untell(1), true);
        due("11: again", x.untell(1), false);
        due("11: ahead of it", x.reading(0, 1, 999), 6);
        due("11: at it", x.reading(0, 1, 1000), 5);
        due("11: behind it", x.reading(0, 1, Integer.MAX_VALUE), 5);
        int fact = x.far(0, 1, 4);
        x.untell(fact);
        due("11: TOLD and UNTOLD at one TIME", x.farOf(0, 1, 1000), GAP);
        for (int t = 2000; t <= 100000; t += 1000) {
            due("12: on", x.later(1000), t);
        }
        due("12: above 100,000", x.later(1), NONE);
        due("12: the TIME stays", x.about(3), 100000);
        due("12: 0 more", x.later(0), 100000);
    }

    private static void knowing() {
        GreyBoxes x = with(plain("a", "warm") + plain("b", "warm") + "holiday 3 to 4;broken b 6 to 7;");
        x.later(3);
        x.far(0, 5, 1);
        x.later(2);
        x.far(0, 5, 2);
        due("13: ahead of it", x.farOf(0, 5, 2), GAP);
        due("13: first", x.farOf(0, 5, 3), 1);
        due("13: first", x.farOf(0, 5, 4), 1);
        due("13: TOLD last", x.farOf(0, 5, 5), 2);
        due("13: another QUANTITY", x.farOf(1, 5, 5), GAP);
        due("13: none such", x.farOf(4, 5, 5), GAP);
        due("13: none such", x.farOf(-1, 5, 5), GAP);
        due("13: no DAY", x.farOf(0, 60, 5), GAP);
        due("13: no DAY", x.farOf(0, -1, 5), GAP);
        for (int day = 2; day <= 8; day++) {
            x.read(0, day, 0, day);
            x.read(1, day, 0, -day);
        }
        int[] a = {2, GAP, GAP, 5, 6, 7, 8};
        int[] b = {-2, GAP, GAP, -5, GAP, GAP, -8};
        for (int day = 2; day <= 8; day++) {
            due("14: of a", x.reading(0, day, 5), a[day - 2]);
            due("14: of b", x.reading(1, day, 5), b[day - 2]);
        }
        due("14: not known yet", x.reading(0, 2, 4), GAP);
        due("14: no BOX", x.reading(2, 2, 5), GAP);
        due("14: no DAY", x.reading(0, 60, 5), GAP);
        due("14: no DAY", x.reading(0, -1, 5), GAP);
    }

    private static void theLaws() {
        GreyBoxes x = with("box a warm zero -1 to 1 slope 9 to 10 lag 0 to 1 tire 0 to 1 off 0;moved a on 10;");
        due("15: all", x.laws(0, 9, 0), 24);
        int[][] order = {{-1, 9, 0, 0}, {-1, 9, 0, 1}, {-1, 9, 1, 0}, {-1, 9, 1, 1}, {-1, 10, 0, 0}};
        for (int i = 0; i < order.length; i++) {
            for (int what = 0; what < 4; what++) {
                due("16: order", x.law(0, 0, i, what, 0), order[i][what]);
            }
        }
        due("16: last", x.law(0, 0, 23, 0, 0), 1);
        due("16: beyond", x.law(0, 0, 24, 0, 0), GAP);
        due("16: below", x.law(0, 0, -1, 0, 0), GAP);
        due("16: another what", x.law(0, 0, 0, 4, 0), GAP);
        due("16: no BOX", x.law(1, 0, 0, 0, 0), GAP);
        x.far(0, 2, -15);
        x.read(0, 2, 0, -14);
        due("17: not SHARED", x.misses(0, 0, 0), 0);
        due("15: not SHARED", x.laws(0, 0, 0), 24);
        x.share(2, true);
        // -15 by slope 9 is -13.5, rounded down -14: zero 0; by 10 it is -15: zero 1; by lag 1 nothing is shown.
        due("15: fewest", x.laws(0, 0, 0), 4 + 12);
        due("16: the first", x.law(0, 0, 0, 2, 0), 1);
        due("18: nothing by lag 1", x.shows(0, 2, 0), GAP);
        due("20: but by others", x.shown(0, 2, false, 0), -14);
        due("20: but by others", x.shown(0, 2, true, 0), -14);
        due("15: another STRETCH", x.laws(0, 10, 0), 24);
        due("18: by lag 1 a day behind", x.shows(0, 3, 0), -1 - 14);
        x.far(0, 1, 0);
        due("15: lag 1 misses", x.laws(0, 9, 0), 4);
        due("16: the first now", x.law(0, 0, 0, 0, 0), 0);
        due("16: the first now", x.law(0, 0, 0, 1, 0), 9);
        due("16: the second", x.law(0, 0, 1, 3, 0), 1);
        due("16: the third", x.law(0, 0, 2, 0, 0), 1);
        due("17: none", x.misses(0, 5, 0), 0);
        due("17: no BOX", x.misses(1, 5, 0), NONE);
        due("17: no DAY", x.misses(0, 60, 0), NONE);
        due("15: no BOX", x.laws(-1, 5, 0), NONE);
        due("15: no DAY", x.laws(0, -1, 0), NONE);
        due("18: no BOX", x.shows(1, 5, 0), GAP);
        due("18: no DAY", x.shows(0, 60, 0), GAP);
    }

    private static void ages() {
        GreyBoxes x = with("box a rain zero 0 to 0 slope 10 to 10 lag 0 to 0 tire 3 to 3 off 0;"
            + "box w wind zero -5 to -5 slope 10 to 10 lag 0 to 0 tire 3 to 3 off 1;fresh a on 5;moved a on 12;fresh a on 20;fresh a on 16;");
        int[] days = {0, 3, 4, 5, 8, 9, 11, 12, 15, 16, 19, 20, 59};
        int[] ages = {0, 3, 4, 0, 3, 4, 6, 0, 3, 0, 3, 0, 39};
        for (int i = 0; i < days.length; i++) {
            x.far(2, days[i], 10);
            due("18: tired on " + days[i], x.shows(0, days[i], 0), 10 + 3 * ages[i] / 10);
        }
        x.far(3, 0, 2);
        x.far(3, 50, 15);
        due("18: wind goes round", x.shows(1, 0, 0), 13);
        due("18: wind goes round", x.shows(1, 50, 0), 9);
        x.read(1, 50, 0, 10);
        due("21: within off", x.wrong(1, 50, 0), 0);
        x.far(3, 0, 5);
        x.read(1, 0, 0, 15);
        due("21: the shorter way round", x.wrong(1, 0, 0), 0);
        x.read(1, 0, 0, 14);
        due("21: beyond off", x.wrong(1, 0, 0), 5);
    }

    private static void missesAndFrost() {
        GreyBoxes x = with("box a damp zero -1 to 1 slope 10 to 10 lag 0 to 0 tire 0 to 0 off 0;moved a on 20;");
        for (int day = 0; day < 30; day++) {
            x.far(1, day, 50);
            x.share(day, true);
        }
        due("19: none", x.frost(0, 0, 0), NONE);
        x.read(0, 3, 0, 51);
        due("19: one fits", x.frost(0, 0, 0), NONE);
        x.read(0, 7, 0, 50);
        due("19: none fits both", x.frost(0, 0, 0), 7);
        due("17: fewest", x.misses(0, 0, 0), 1);
        due("15: two with as few", x.laws(0, 0, 0), 2);
        x.read(0, 9, 0, 51);
        due("15: one", x.laws(0, 19, 0), 1);
        due("16: it", x.law(0, 19, 0, 0, 0), 1);
        due("19: stays", x.frost(0, 19, 0), 7);
        due("19: another STRETCH", x.frost(0, 20, 0), NONE);
        x.read(0, 25, 0, 99);
        due("19: no LAW at once", x.frost(0, 59, 0), 25);
        due("17: all miss", x.misses(0, 20, 0), 1);
        due("15: all miss", x.laws(0, 20, 0), 3);
        x.share(25, false);
        due("19: no more SHARED", x.frost(0, 59, 0), NONE);
        due("19: no BOX", x.frost(1, 0, 0), NONE);
        due("19: no DAY", x.frost(0, 60, 0), NONE);
        due("20: least", x.shown(0, 25, false, 0), 49);
        due("20: greatest", x.shown(0, 25, true, 0), 51);
        due("20: nothing", x.shown(0, 40, true, 0), GAP);
        due("20: no BOX", x.shown(1, 25, true, 0), GAP);
        due("20: no DAY", x.shown(0, 60, true, 0), GAP);
    }

    private static void wrongs() {
        GreyBoxes x = with(plain("t", "warm") + plain("r", "rain") + plain("w", "wind") + plain("d", "damp"));
        x.far(0, 4, 10);
        x.far(2, 4, 12);
        x.far(3, 4, 3);
        x.far(1, 4, 40);
        due("21: no READING", x.wrong(1, 4, 0), NONE);
        x.read(1, 4, 0, 6);
        due("21: TWICE", x.wrong(1, 4, 0), 4);
        x.read(1, 3, 0, 6);
        due("21: SHOWS nothing", x.wrong(1, 3, 0), NONE);
        due("21: COPY", x.wrong(1, 4, 0), 2);
        x.read(2, 3, 0, 11);
        x.read(2, 4, 0, 11);
        due("21: TAIL ahead of COPY", x.wrong(2, 4, 0), 1);
        x.read(0, 4, 0, 40);
        due("21: 5", x.wrong(0, 4, 0), 5);
        x.read(3, 4, 0, 10);
        due("21: ROW", x.wrong(0, 4, 0), 3);
        due("21: ROW there", x.wrong(3, 4, 0), 3);
        x.read(3, 3, 0, 10);
        due("21: COPY ahead of ROW", x.wrong(3, 4, 0), 2);
        x.read(1, 3, 0, 5);
        x.read(1, 4, 0, 24);
        due("21: half is not TWICE", x.wrong(1, 4, 0), 5);
        x.read(1, 4, 0, 12);
        due("21: not WRONG", x.wrong(1, 4, 0), 0);
        due("21: no BOX", x.wrong(4, 4, 0), NONE);
        due("21: no DAY", x.wrong(0, 60, 0), NONE);
        due("21: not known", x.wrong(0, 4, -1), NONE);
        GreyBoxes y = with(Check.box("r", "rain", "0 to 0", 2));
        y.far(2, 0, 0);
        y.read(0, 0, 0, -3);
        due("21: twice as much is further off", y.wrong(0, 0, 0), 5);
        y.far(2, 0, 9);
        y.read(0, 0, 0, 5);
        due("21: TWICE within off", y.wrong(0, 0, 0), 4);
    }

    private static void habits() {
        GreyBoxes x = with(plain("t", "warm"));
        due("22: none", x.habit(0, 0), NONE);
        due("22: none", x.habit(1, 0), NONE);
        x.read(0, 0, 7, 1);
        due("22: SHOWS nothing", x.habit(0, 0), NONE);
        for (int day = 1; day < 9; day++) {
            x.far(0, day, 20);
        }
        x.read(0, 1, 8, 20);
        due("22: none WRONG", x.habit(0, 0), 8);
        due("22: none WRONG", x.habit(1, 0), 0);
        x.read(0, 2, 5, 1);
        x.read(0, 3, 5, 20);
        due("22: one of two", x.habit(0, 0), 5);
        x.read(0, 4, 9, 2);
        x.read(0, 5, 9, 3);
        x.read(0, 6, 9, 20);
        due("22: two of three", x.habit(0, 0), 9);
        due("22: two of three", x.habit(1, 0), 2);
        x.read(0, 7, 6, 4);
        due("22: one of one", x.habit(0, 0), 6);
        x.read(0, 8, 4, 5);
        due("22: the least number", x.habit(0, 0), 4);
        x.doubt(4, true);
        due("22: one DOUBTED does not count", x.habit(0, 0), 6);
        due("22: another what", x.habit(2, 0), NONE);
        due("22: another what", x.habit(-1, 0), NONE);
        due("22: not known", x.habit(0, -1), NONE);
    }

    private static void rights() {
        GreyBoxes x = with("box a warm zero 0 to 0 slope 12 to 12 lag 1 to 1 tire 0 to 0 off 1;"
            + "box w wind zero 0 to 1 slope 10 to 10 lag 0 to 0 tire 0 to 0 off 1;box r rain zero 0 to 0 slope 8 to 12 lag 0 to 2 tire 0 to 0 off 0;");
        x.read(0, 6, 0, 12);
        due("23: of the day ahead", x.right(0, 5, false, 0), 10);
        due("23: of the day ahead", x.right(0, 5, true, 0), 11);
        due("23: not of the same day", x.right(0, 6, true, 0), GAP);
        x.read(0, 1, 0, 300);
        due("23: beyond all numbers", x.right(0, 0, false, 0), GAP);
        x.read(0, 2, 0, 48);
        due("23: cut", x.right(0, 1, true, 0), 40);
        due("23: cut", x.right(0, 1, false, 0), 40);
        x.read(0, 3, 0, -24);
        due("23: cut below", x.right(0, 2, false, 0), -20);
        x.read(1, 9, 0, 0);
        due("23: wind goes round", x.right(1, 9, false, 0), 0);
        due("23: wind goes round", x.right(1, 9, true, 0), 15);
        x.read(1, 8, 0, 8);
        due("23: wind", x.right(1, 8, false, 0), 6);
        due("23: wind", x.right(1, 8, true, 0), 9);
        x.read(2, 12, 0, 12);
        x.read(2, 14, 0, 40);
        due("23: by all lags", x.right(2, 12, false, 0), 10);
        due("23: by all lags", x.right(2, 12, true, 0), 51);
        due("23: by one lag", x.right(2, 11, true, 0), 16);
        due("23: of the last days", x.right(2, 59, true, 0), GAP);
        due("23: no BOX", x.right(3, 5, true, 0), GAP);
        due("23: no DAY", x.right(0, 60, true, 0), GAP);
        due("24: least", x.sum(2, 10, 14, 0, 0), 10 + 10 + 10 + 34 + 34);
        due("24: greatest", x.sum(2, 10, 14, 1, 0), 16 + 16 + 51 + 51 + 51);
        due("24: no GAPS", x.sum(2, 10, 14, 2, 0), 0);
        due("24: GAPS", x.sum(2, 0, 59, 2, 0), 55);
        due("24: none has any", x.sum(2, 20, 30, 0, 0), 0);
        due("24: none has any", x.sum(2, 20, 30, 2, 0), 11);
        due("24: from behind to", x.sum(2, 11, 10, 0, 0), GAP);
        due("24: one DAY", x.sum(2, 10, 10, 0, 0), 10);
        due("24: another what", x.sum(2, 10, 14, 3, 0), GAP);
        due("24: another what", x.sum(2, 10, 14, -1, 0), GAP);
        due("24: no DAY", x.sum(2, 10, 60, 0, 0), GAP);
        due("24: no DAY", x.sum(2, -1, 6, 0, 0), GAP);
        due("24: no BOX", x.sum(3, 10, 14, 0, 0), GAP);
    }

    private static void sures() {
        GreyBoxes x = with(Check.box("a", "warm", "0 to 0", 1));
        x.read(0, 3, 0, 10);
        due("25: no other has any", x.sure(0, 0, 59, 0), NONE);
        x.read(0, 5, 0, 11);
        due("25: they meet", x.sure(0, 0, 59, 0), NONE);
        x.read(0, 5, 0, 12);
        due("25: no less", x.sure(0, 0, 59, 0), 5);
        x.read(0, 9, 0, 15);
        due("25: above all", x.sure(0, 0, 59, 0), 9);
        due("25: from to", x.sure(0, 3, 8, 0), 5);
        due("25: one DAY", x.sure(0, 5, 5, 0), NONE);
        due("25: from behind to", x.sure(0, 9, 3, 0), NONE);
        due("25: no DAY", x.sure(0, 3, 60, 0), NONE);
        due("25: no BOX", x.sure(1, 3, 9, 0), NONE);
        GreyBoxes y = with(Check.box("a", "warm", "0 to 0", 0));
        y.read(0, 7, 0, 4);
        y.read(0, 2, 0, 4);
        due("25: the first of like ones", y.sure(0, 0, 59, 0), 2);
    }

    private static void liesAndNext() {
        GreyBoxes x = with(Check.box("a", "damp", "0 to 0", 1) + Check.box("b", "damp", "0 to 0", 1)
            + Check.box("c", "damp", "-2 to 1", 1) + Check.box("d", "warm", "-2 to 1", 1) + "moved d on 50;");
        x.read(0, 5, 0, 20);
        x.read(1, 5, 0, 30);
        x.read(3, 5, 0, 30);
        due("26: another QUANTITY is no other", x.lies(1, 5, 0), NONE);
        x.read(2, 5, 0, 32);
        due("26: the first", x.lies(1, 5, 0), 0);
        x.read(1, 5, 0, 20);
        due("26: c", x.lies(1, 5, 0), 2);
        x.read(2, 5, 0, 23);
        due("26: c at 21 meets", x.lies(1, 5, 0), NONE);
        x.read(2, 5, 0, 24);
        due("26: c at 22 does not", x.lies(1, 5, 0), 2);
        due("26: none of wind", x.lies(3, 5, 0), NONE);
        due("26: no QUANTITY", x.lies(4, 5, 0), NONE);
        due("26: no QUANTITY", x.lies(-1, 5, 0), NONE);
        due("26: no DAY", x.lies(1, 60, 0), NONE);
        due("26: not known", x.lies(1, 5, -1), NONE);
        due("27: the least number", x.next(0), 2);
        x.far(1, 7, 10);
        x.read(2, 7, 0, 9);
        x.share(7, true);
        due("27: fewer LAWS", x.next(0), 3);
        x.far(0, 7, 10);
        x.read(3, 7, 0, 1);
        due("27: the last STRETCH alone", x.next(0), 3);
        due("27: as known", x.next(-1), 2);
        due("27: no BOXES", new GreyBoxes().next(0), NONE);
    }

    private static void says(String e, int want) {
        GreyBoxes x = with(plain("a", "warm") + plain("b", "warm"));
        x.read(0, 8, 0, 5);
        x.read(0, 7, 0, 3);
        due("28: rules of " + e, Check.rules(x, "if " + e + " say wet;"), 1);
        due("28: says, of " + e, x.says(8, 0), want == 0 ? NONE : 1);
    }

    private static void sayings() {
        says("a=5", 1);
        says("last a=3", 1);
        says("day=8", 1);
        says("2+3*4=14", 1);
        says("(2+3)*4=20", 1);
        says("9-3-2=4", 1);
        says("1<2", 1);
        says("2<2", 0);
        says("2>1", 1);
        says("2>2", 0);
        says("0", 0);
        says("7", 1);
        says("1-2", 1);
        says("not 7", 0);
        says("not not 7=1", 0);
        says("(not not 7)=1", 1);
        says("(3 and 4)=1", 1);
        says("(3 or 4)=1", 1);
        says("(0 or 0)=0", 1);
        says("(3 and 0)=0", 1);
        says("1 or 0 and 0", 1);
        says("not 0 and 1", 1);
        says("not 1 or 1", 1);
        says("9999*9999*9999<0", 1);
        says("9999*9999*9999+2048+0*1<9999*9999*9999", 0);
        says("4096*4096*4096=0", 1);
        says("1 or b", 0);
        says("not b", 0);
        says("last b=0 or 1", 0);
        says("0*b=0", 0);
        says("(a>4)+(a>1)=2", 1);
        GreyBoxes x = with(plain("a", "warm"));
        Check.rules(x, "if a say dry; if day<3 say wet;if 1 say dry;");
        x.read(0, 2, 0, 1);
        due("28: the first that holds", x.says(2, 0), 0);
        due("28: the second", x.says(1, 0), 1);
        due("28: the third", x.says(59, 0), 0);
        due("28: as known", x.says(2, -1), 1);
        due("28: no DAY", x.says(60, 0), NONE);
        due("28: no DAY", x.says(-1, 0), NONE);
        Check.rules(x, "if last a+1 say wet;");
        due("28: no DAY ahead", x.says(0, 0), NONE);
    }

    private static void trials() {
        GreyBoxes x = with(plain("a", "warm") + "made 0 to 9;made 20 to 20;");
        due("29: none", x.tried(0, 0), 0);
        Check.rules(x, "if a>5 say wet;if a<4 say dry;");
        due("29: none", x.tried(2, 0), 0);
        due("30: none", x.luck(0, 0), NONE);
        due("30: none", x.luck(1, 0), NONE);
        int[] days = {10, 11, 12, 13, 14, 20, 5, 30};
        int[] numbers = {9, 9, 1, 1, 9, 9, 9, 5};
        int[] rains = {3, 0, 0, 0, 1, 7, 7, 7};
        for (int i = 0; i < days.length; i++) {
            x.read(0, days[i], 0, numbers[i]);
        }
        for (int i = 0; i < days.length; i++) {
            x.far(2, days[i] + 1, rains[i]);
        }
        x.read(0, 40, 0, 9);
        x.read(0, 59, 0, 9);
        due("29: DAYS", x.tried(0, 0), 5);
        due("29: RIGHT", x.tried(1, 0), 4);
        due("29: WORTH", x.tried(2, 0), 1);
        due("29: another what", x.tried(3, 0), GAP);
        due("29: another what", x.tried(-1, 0), GAP);
        // Two of five are wet, wet is said of three: at least four are right if both wet ones are of these, 3 of 10.
        due("30: upper", x.luck(0, 0), 3);
        due("30: lower", x.luck(1, 0), 10);
        due("30: another part", x.luck(2, 0), NONE);
        due("30: another part", x.luck(-1, 0), NONE);
        due("32: first", x.rule(0, 0, 0), 3);
        due("32: first", x.rule(0, 1, 0), 2);
        due("32: second", x.rule(1, 0, 0), 2);
        due("32: second", x.rule(1, 1, 0), 2);
        due("32: none such", x.rule(2, 0, 0), NONE);
        due("32: none such", x.rule(-1, 0, 0), NONE);
        due("32: another what", x.rule(0, 2, 0), NONE);
        due("32: another what", x.rule(0, -1, 0), NONE);
        due("32: not known", x.rule(0, 0, -1), 0);
    }

    private static void manyTrials() {
        GreyBoxes x = with(plain("a", "warm"));
        Check.rules(x, "if day<30 say wet;if 1 say dry;");
        for (int day = 1; day < 60; day++) {
            x.far(2, day, day <= 30 ? 1 : 0);
        }
        due("29: all RIGHT", x.tried(1, 0), 59);
        due("29: WORTH", x.tried(2, 0), 29);
        due("30: one of all", x.luck(0, 0), 1);
        due("30: of 59 over 30", x.luck(1, 0), 59132290782430712L);
        x.far(2, 30, 0);
        x.far(2, 31, 1);
        due("30: one choice or 30 * 29 more", x.luck(0, 0) * (59132290782430712L / x.luck(1, 0)), 871);
        Check.rules(x, "if day<30 say dry;if 1 say wet;");
        due("29: WORTH below 0", x.tried(2, 0), 2 - 30);
    }

    private static void learning() {
        GreyBoxes x = with(plain("a", "warm") + plain("b", "warm") + "made 0 to 4;");
        due("31: no made DAY", x.learnt(0, 0, 0), GAP);
        int[] numbers = {5, 9, 2, 7, 7, 1, 8, 3};
        int[] rains = {1, 0, 1, 0, 1, 0, 1, 1};
        for (int day = 0; day < 8; day++) {
            x.read(0, day, 0, numbers[day]);
            x.far(2, day + 1, rains[day]);
        }
        due("31: c", x.learnt(0, 0, 0), 6);
        due("31: the way", x.learnt(0, 1, 0), 1);
        due("31: made", x.learnt(0, 2, 0), 4);
        due("31: others RIGHT", x.learnt(0, 3, 0), 1);
        due("31: others", x.learnt(0, 4, 0), 3);
        due("31: another what", x.learnt(0, 5, 0), GAP);
        due("31: another what", x.learnt(0, -1, 0), GAP);
        due("31: no made DAY for it", x.learnt(1, 4, 0), GAP);
        due("31: no BOX", x.learnt(2, 0, 0), GAP);
        due("31: no BOX", x.learnt(-1, 0, 0), GAP);
        x.read(1, 0, 0, 500);
        due("31: the least c of way 0", x.learnt(1, 0, 0), -50);
        due("31: way 0", x.learnt(1, 1, 0), 0);
        x.far(2, 1, 0);
        due("31: dry beyond all c: way 1", x.learnt(1, 0, 0), -50);
        due("31: way 1", x.learnt(1, 1, 0), 1);
    }

    private static void abouts() {
        GreyBoxes x = with(plain("a", "warm") + plain("b", "damp") + "made 0 to 1;made 0 to 1;made 0 to 1;");
        x.far(0, 0, 0);
        x.later(7);
        Check.rules(x, "if 1 say wet;");
        x.share(5, true);
        x.share(59, true);
        x.doubt(0, true);
        x.doubt(9, true);
        x.feed(0, 0, 0, 0, 0);
        int[] want = {2, 3, 1, 7, 1, 2, 20, 513};
        for (int what = 0; what < want.length; what++) {
            due("33: about(" + what + ")", x.about(what), want[what]);
        }
        due("33: another what", x.about(8), NONE);
        due("33: another what", x.about(-1), NONE);
    }

    /** What can't be is answered so, and nothing is thrown. */
    private static void strangeNumbers() {
        GreyBoxes x = with(plain("a", "warm"));
        x.far(0, 0, 1);
        for (int n : STRANGE) {
            due("3: strange", x.end(n), NONE);
            due("6: strange", x.fault(n), NONE);
            due("7: strange", x.share(n, true), false);
            due("8: strange", x.far(n, n, n), NONE);
            due("9: strange", x.read(n, n, n, n), NONE);
            due("10: strange", x.doubt(n, true), false);
            due("11: strange", x.untell(n), false);
            due("12: strange", x.later(n), NONE);
            due("13: strange", x.farOf(n, n, n), GAP);
            due("14: strange", x.reading(n, n, n), GAP);
            due("15: strange", x.laws(n, n, n), NONE);
            due("16: strange", x.law(n, n, n, n, n), GAP);
            due("16: strange", x.law(0, 0, n, n, n), GAP);
            due("17: strange", x.misses(n, n, n), NONE);
            due("18: strange", x.shows(n, n, n), GAP);
            due("19: strange", x.frost(n, n, n), NONE);
            due("20: strange", x.shown(n, n, true, n), GAP);
            due("21: strange", x.wrong(n, n, n), NONE);
            due("22: strange", x.habit(n, n), NONE);
            due("23: strange", x.right(n, n, true, n), GAP);
            due("24: strange", x.sum(n, n, n, n, n), GAP);
            due("25: strange", x.sure(n, n, n, n), NONE);
            due("26: strange", x.lies(n, n, n), NONE);
            due("27: strange", x.next(n), 0);
            due("28: strange", x.says(n, n), NONE);
            due("29: strange", x.tried(n, n), GAP);
            due("30: strange", x.luck(n, n), NONE);
            due("31: strange", x.learnt(n, n, n), GAP);
            due("32: strange", x.rule(n, n, n), NONE);
            due("33: strange", x.about(n), NONE);
        }
    }

    public static void main(String[] args) {
        newObject();
        feedAndEnd();
        hillFaults();
        hillKept();
        rulesFaults();
        rulesKept();
        faults();
        tellings();
        doubtsAndTime();
        knowing();
        theLaws();
        ages();
        missesAndFrost();
        wrongs();
        habits();
        rights();
        sures();
        liesAndNext();
        sayings();
        trials();
        manyTrials();
        learning();
        abouts();
        strangeNumbers();
        Check.finish();
    }
}
