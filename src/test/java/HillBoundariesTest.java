/** Promises 4 and 6: the edges that the document names for the text of THE HILL. */
public final class HillBoundariesTest {
    private static final int NONE = GreyBoxes.NONE;
    private static final String[] WORDS = ("box warm damp rain wind zero to slope lag tire off moved fresh on broken holiday made "
        + "if say wet dry last day and or not").split(" ");
    private static final String[] QUANTITIES = {"warm", "damp", "rain", "wind"};
    private static final String A = "box a warm zero 0 to 0 slope 10 to 10 lag 0 to 0 tire 0 to 0 off 0;";

    private HillBoundariesTest() {
    }

    private static void taken(String text, int lines) {
        GreyBoxes x = new GreyBoxes();
        Check.hill(x, "$");
        Check.due("4: hill of " + text, Check.hill(x, text), lines);
        Check.due("6: no FAULT in " + text, x.fault(0), 0);
        Check.due("6: no place of one in " + text, x.fault(1), NONE);
        Check.due("4: the TAPE is empty after " + text, x.about(6), 0);
        Check.due("33: BOXES and other lines of " + text, x.about(0) + x.about(1), lines);
    }

    private static void refused(String text, int kind, int place) {
        GreyBoxes x = new GreyBoxes();
        Check.due("4: hill of " + text, Check.hill(x, text), NONE);
        Check.due("6: FAULT of " + text, x.fault(0), kind);
        Check.due("6: place of the FAULT of " + text, x.fault(1), place);
        Check.due("4: the TAPE is empty after " + text, x.about(6), 0);
        Check.due("4: nothing of it is there, " + text, x.about(0) + x.about(1), 0);
    }

    private static String boxNamed(String name) {
        return A.replace(" a ", " " + name + " ");
    }

    private static String boxes(int n) {
        StringBuilder text = new StringBuilder();
        for (int i = 0; i < n; i++) {
            text.append(boxNamed("" + (char) ('a' + i)));
        }
        return text.toString();
    }

    /** A range's first number stands at the place where the parts meet; what follows it is not looked at if it can't be. */
    private static void range(String ahead, String behind, int least, int most) {
        for (int low = least; low <= most; low++) {
            for (int high = low; high <= most; high++) {
                taken(ahead + low + " to " + high + behind, 1);
            }
            refused(ahead + low + " to " + (most + 1) + behind, 4, (ahead + low + " to ").length());
            if (low > least || least < 0) {
                refused(ahead + low + " to " + (low - 1) + behind, 4, (ahead + low + " to ").length());
            }
        }
        refused(ahead + (most + 1) + " to " + (most + 1) + behind, 4, ahead.length());
        refused(ahead + "9999 to 9999" + behind, 4, ahead.length());
        if (least < 0 || least > 0) {
            refused(ahead + (least - 1) + " to " + most + behind, 4, ahead.length());
        } else {
            refused(ahead + "-0 to " + most + behind, 2, ahead.length());
            refused(ahead + "0 to -0" + behind, 2, ahead.length() + 5);
        }
    }

    private static void ranges() {
        for (String quantity : QUANTITIES) {
            boolean wind = quantity.equals("wind");
            String box = "box a " + quantity;
            range(box + " zero ", " slope 10 to 10 lag 0 to 0 tire 0 to 0 off 0;", -5, 5);
            range(box + " zero 0 to 0 slope ", " lag 0 to 0 tire 0 to 0 off 0;", wind ? 10 : 8, wind ? 10 : 12);
            range(box + " zero 0 to 0 slope 10 to 10 lag ", " tire 0 to 0 off 0;", 0, 2);
            range(box + " zero 0 to 0 slope 10 to 10 lag 0 to 0 tire ", " off 0;", 0, 3);
            String off = box + " zero 0 to 0 slope 10 to 10 lag 0 to 0 tire 0 to 0 off ";
            for (int n = 0; n <= 9; n++) {
                taken(off + n + ";", 1);
            }
            refused(off + "10;", 4, off.length());
            refused(off + "9999;", 4, off.length());
            refused(off + "-1;", 2, off.length());
        }
        refused("box a wind zero 0 to 0 slope 8 to 12", 4, 29);
        refused("box a wind zero 0 to 0 slope 10 to 9", 4, 35);
    }

    private static void days() {
        for (String word : new String[] {"moved", "fresh"}) {
            String ahead = A + word + " a on ";
            for (int day = 1; day <= 59; day++) {
                taken(ahead + day + ";", 2);
            }
            refused(ahead + "0;", 4, ahead.length());
            refused(ahead + "60;", 4, ahead.length());
            refused(ahead + "9999;", 4, ahead.length());
            refused(ahead + "-1;", 2, ahead.length());
        }
        for (String ahead : new String[] {"broken a ", "holiday ", "made "}) {
            String line = A + ahead;
            taken(line + "0 to 0;", 2);
            taken(line + "0 to 59;", 2);
            taken(line + "59 to 59;", 2);
            taken(line + "17 to 17;", 2);
            refused(line + "60 to 60;", 4, line.length());
            refused(line + "0 to 60;", 4, line.length() + 5);
            refused(line + "17 to 16;", 4, line.length() + 6);
            refused(line + "59 to 58;", 4, line.length() + 6);
            refused(line + "1 to 0;", 4, line.length() + 5);
            refused(line + "-1 to 0;", 2, line.length());
            refused(line + "0 to -0;", 2, line.length() + 5);
            refused(line + "0 to - 1;", 2, line.length() + 5);
        }
    }

    private static void placeOfV() {
        refused("box a warm zero -6 to 0", 4, 16);
        refused("box a warm zero - \n 6 to 0", 4, 16);
        refused("box a warm zero   6 to 0", 4, 18);
        refused("box a warm zero 0 to - 1 slope", 4, 21);
        refused("box a warm zero -4 to-5 slope", 4, 21);
        refused("box a warm zero - x", 2, 18);
        refused("box a warm zero --5", 2, 17);
        refused("box a warm zero - $", 1, 18);
        refused("box a warm zero -", 2, 17);
        refused("box a warm zero - ", 2, 18);
        taken("box a warm zero -0 to - 0 slope 8 to 8 lag 0 to 0 tire 0 to 0 off 0;", 1);
        taken("box a warm zero\n-\n5 to -5 slope 8 to 8 lag 0 to 0 tire 0 to 0 off 0;", 1);
    }

    private static void howMany() {
        for (int n = 0; n <= 5; n++) {
            taken(boxes(n), n);
            taken(boxes(n) + "made 0 to 0;".repeat(16), n + 16);
        }
        String five = boxes(5);
        refused(five + " box f", 2, five.length() + 1);
        refused(five + "box a", 2, five.length());
        refused(five + "box", 2, five.length());
        refused(five + "box $", 2, five.length());
        String[] others = {"moved a on 1;", "fresh a on 1;", "broken a 0 to 0;", "holiday 0 to 0;", "made 0 to 0;"};
        for (String other : others) {
            String sixteen = A + other.repeat(16);
            taken(sixteen, 17);
            for (String last : others) {
                refused(sixteen + " " + last, 2, sixteen.length() + 1);
            }
            taken(sixteen + boxNamed("b"), 18);
        }
        String mixed = boxes(3) + "made 0 to 0;".repeat(16) + boxes(5).substring(3 * A.length());
        taken(mixed, 21);
    }

    private static void names() {
        for (String name : new String[] {"a", "z", "abcdefgh", "zzzzzzzz", "boxes", "bo", "tow", "t", "warmer", "of", "days", "nota"}) {
            taken(boxNamed(name), 1);
        }
        refused(boxNamed("abcdefghi"), 1, 4);
        refused("holidaysx", 1, 0);
        refused("abcdefgh", 2, 0);
        for (String word : WORDS) {
            refused(boxNamed(word), 2, 4);
            refused(A + "moved " + word + " on 1;", 2, A.length() + 6);
            refused(A + "fresh " + word + " on 1;", 2, A.length() + 6);
            refused(A + "broken " + word + " 1 to 1;", 2, A.length() + 7);
        }
        taken(boxNamed("abcdefgh") + boxNamed("abcdefgi") + boxNamed("bbcdefgh") + boxNamed("abcdefg"), 4);
        taken(boxNamed("aa") + boxNamed("a") + boxNamed("aaa") + boxNamed("b") + boxNamed("ab"), 5);
        refused(boxNamed("abcdefgh") + boxNamed("b") + boxNamed("abcdefgh"), 3, boxNamed("abcdefgh").length() + A.length() + 4);
        refused(A + "box a wind", 3, A.length() + 4);
        refused(A + "box a", 3, A.length() + 4);
    }

    private static void namesToldAhead() {
        for (String line : new String[] {"moved b on 1;", "fresh b on 1;", "broken b 0 to 0;"}) {
            int name = line.indexOf('b', 1);
            refused(line, 5, name);
            refused(line + boxNamed("b"), 5, name);
            refused(A + line + boxNamed("b"), 5, A.length() + name);
            taken(A + boxNamed("b") + line, 3);
            taken(boxNamed("b") + line + A, 3);
            refused(A + line.replace(" b", " aa"), 5, A.length() + name);
        }
        refused("moved b", 5, 6);
    }

    private static void numbersAndBlanks() {
        taken("made 0000 to 0059;", 1);
        refused("made 00000 to 59;", 1, 5);
        refused("made 0 to 00059;", 1, 10);
        refused("made 0 to 99999999999;", 1, 10);
        refused("made 0a to 1;", 1, 5);
        refused("made 0to 1;", 1, 5);
        refused("made 60a", 1, 5);
        taken("made 0 to 1;made 1 to 2;", 2);
        taken("made0 to1;", 1);
        taken("made\n0\n\nto \n 1 ; ", 1);
        taken("\n", 0);
        taken(" ", 0);
        taken("", 0);
        refused("made 0 to 1 2;", 2, 12);
        refused("madeto", 2, 0);
        refused("box a warm zero 0 to 0 slope 1 0", 4, 29);
        taken("box a warm zero-5 to-5 slope8 to8 lag0 to0 tire0 to0 off0;", 1);
    }

    /** No letter directly behind an N; any other byte is a TOKEN of its own, or none. */
    private static void everyByteBehindANumber() {
        for (int b = 0; b < 256; b++) {
            char c = (char) b;
            String text = "made 0 to 5" + c + ";";
            if (c == ' ' || c == '\n' || c >= '0' && c <= '9') {
                taken(text, 1);
            } else if (c >= 'a' && c <= 'z') {
                refused(text, 1, 10);
            } else if (c == ';') {
                refused(text, 2, 12);
            } else {
                refused(text, c == '-' ? 2 : 1, 11);
            }
        }
    }

    private static void everyByte() {
        for (int b = 0; b < 256; b++) {
            char c = (char) b;
            String last = "made 0 to 1;" + c;
            boolean letter = c >= 'a' && c <= 'z';
            boolean digit = c >= '0' && c <= '9';
            if (c == ' ' || c == '\n') {
                taken(last, 1);
            } else {
                refused(last, letter || digit || c == ';' || c == '-' ? 2 : 1, 12);
            }
        }
    }

    /** Each TOKEN of a text in turn: the end ahead of it, a sign that can't stand in its stead, and no TOKEN. */
    private static void eachTokenIsNeeded(String text) {
        String[] tokens = text.split(" ");
        StringBuilder ahead = new StringBuilder();
        for (int i = 0; i < tokens.length; i++) {
            boolean lineBegins = i == 0 || tokens[i - 1].equals(";");
            int place = ahead.length();
            if (!lineBegins) {
                refused(ahead.toString(), 2, place);
                refused(ahead + "\n ", 2, place + 2);
            }
            refused(ahead + (tokens[i].equals(";") ? "-" : ";"), 2, place);
            refused(ahead + (tokens[i].equals("if") ? "or" : "if"), 2, place);
            refused(ahead + "$" + tokens[i], 1, place);
            if (Character.isLetter(tokens[i].charAt(0))) {
                refused(ahead + "7", 2, place);
                refused(ahead + tokens[i] + "xxxxxxxx", 1, place);
            } else {
                refused(ahead + "x", 2, place);
            }
            ahead.append(tokens[i]).append(' ');
        }
        taken(ahead.toString(), text.split(";").length);
    }

    private static void grammar() {
        for (String quantity : QUANTITIES) {
            eachTokenIsNeeded("box a " + quantity + " zero 0 to 0 slope 10 to 10 lag 0 to 0 tire 0 to 0 off 0 ;");
        }
        String spaced = A.replace(";", " ;");
        eachTokenIsNeeded(spaced + " moved a on 5 ;");
        eachTokenIsNeeded(spaced + " fresh a on 5 ;");
        eachTokenIsNeeded(spaced + " broken a 5 to 6 ;");
        eachTokenIsNeeded("holiday 5 to 6 ; made 5 to 6 ;");
        refused("box a warm slope 0 to 0", 2, 11);
        refused("box a warm zero 0 to 0 lag", 2, 23);
        refused("box a warm zero 0 to 0 slope 10 to 10 tire", 2, 38);
        refused(A + "moved a 5", 2, A.length() + 8);
        refused(A + "broken a on 5", 2, A.length() + 9);
        refused("holiday a 5", 2, 8);
        refused("made on 5", 2, 5);
    }

    private static void theFirstByItsPlace() {
        refused("made 60 $", 4, 5);
        refused("$ made 60", 1, 0);
        refused("moved b 60", 5, 6);
        refused(A + "box a cold", 3, A.length() + 4);
        refused("box a cold $", 2, 6);
        refused("made 0 to 1; made 60 to 1; moved b on 1;", 4, 18);
        refused("made 0 to 1; moved b on 60;", 5, 19);
    }

    private static void allIsNewThen() {
        GreyBoxes x = Scene.make();
        Check.tape(x, boxNamed("q"));
        Check.due("4: another HILL", x.hill(), 1);
        int[] want = {1, 0, 0, 7, 0, 0, 0, 0};
        for (int what = 0; what < want.length; what++) {
            Check.due("4: another HILL, about(" + what + ")", x.about(what), want[what]);
        }
        Check.due("4: FACTS are none", x.untell(0), false);
        Check.due("4: FACTS are none", x.farOf(0, 0, 7), GreyBoxes.GAP);
        Check.due("4: READINGS are none", x.reading(0, 0, 7), GreyBoxes.GAP);
        Check.due("4: RULES are none", x.says(0, 7), NONE);
        Check.due("4: none is DOUBTED", x.doubt(1, false), false);
        Check.due("4: no DAY is SHARED", x.share(1, false), false);
        Check.due("4: FACTS are numbered anew", x.far(0, 0, 0), 0);
        Check.due("4: at the TIME as it was", x.farOf(0, 0, 6), GreyBoxes.GAP);
        Check.due("4: an old NAME is no BOX", Check.rules(x, "if a say wet;"), NONE);
        Check.due("4: it is FAULT 5", x.fault(0), 5);
        Check.due("4: an empty HILL takes the place, too", x.hill(), 0);
        Check.due("4: BOXES are none", x.about(0), 0);
        Check.due("4: FACTS are none", x.about(2), 0);
    }

    private static void aFaultKeepsAll() {
        for (String text : new String[] {"$", "box", A + "box a", "made 60 to 60;", A + "moved b on 1;", boxes(5) + "box", A + "made 0 to 1"}) {
            Scene.untouchedButTextBy("4: a FAULT, " + text, x -> Check.due("4: hill of " + text, Check.hill(x, text), NONE));
        }
    }

    private static void othersOfFault() {
        GreyBoxes x = new GreyBoxes();
        Check.hill(x, "  $");
        for (int what : new int[] {-1, 2, 3, Integer.MIN_VALUE, Integer.MAX_VALUE}) {
            Check.due("6: another what, " + what, x.fault(what), NONE);
        }
        Check.due("6: asked twice", x.fault(1), 2);
        Check.due("6: asked twice", x.fault(1), 2);
        Check.tape(x, " ".repeat(501));
        Check.due("6: -2", x.rules(), -2);
        Check.due("6: of the latest that was not -2", x.fault(0), 1);
        Check.due("6: of the latest that was not -2", x.fault(1), 2);
        x.end(1);
        Check.due("6: rules() of one blank", x.rules(), 0);
        Check.due("6: of the latest", x.fault(0), 0);
        Check.due("6: of the latest", x.fault(1), NONE);
        Check.rules(x, " say");
        Check.due("6: of the latest rules()", x.fault(0), 2);
        Check.due("6: of the latest rules()", x.fault(1), 1);
        Check.tape(x, "$".repeat(501));
        Check.due("6: -2, whatever the text is", x.rules(), -2);
        Check.due("6: still that of rules()", x.fault(0), 2);
        x.end(0);
        Check.due("6: hill() of nothing", x.hill(), 0);
        Check.due("6: of the latest hill()", x.fault(0), 0);
        Check.due("6: of the latest hill()", x.fault(1), NONE);
        Scene.untouchedBy("6: asking", y -> y.fault(0));
        Scene.untouchedBy("6: asking for another what", y -> y.fault(2));
    }

    public static void main(String[] args) {
        ranges();
        days();
        placeOfV();
        howMany();
        names();
        namesToldAhead();
        numbersAndBlanks();
        everyByte();
        everyByteBehindANumber();
        grammar();
        theFirstByItsPlace();
        allIsNewThen();
        aFaultKeepsAll();
        othersOfFault();
        Check.finish();
    }
}
