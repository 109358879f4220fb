/** Promises 5 and 28: the edges that the document names for the text of RULES and for what they say. */
public final class RulesBoundariesTest {
    private static final int NONE = GreyBoxes.NONE;
    private static final String[] WORDS = ("box warm damp rain wind zero to slope lag tire off moved fresh on broken holiday made "
        + "if say wet dry last day and or not").split(" ");
    private static final String SIGNS = ";-()<>=+*";

    private RulesBoundariesTest() {
    }

    private static String plain(String name) {
        return Check.box(name, "warm", "0 to 0", 0);
    }

    /** BOX a reads 5 on DAY 8 and 3 on DAY 7, BOX b nothing. */
    private static GreyBoxes twoBoxes() {
        GreyBoxes x = new GreyBoxes();
        Check.hill(x, plain("a") + plain("b"));
        x.read(0, 8, 0, 5);
        x.read(0, 7, 0, 3);
        return x;
    }

    private static void taken(String text, int count) {
        GreyBoxes x = twoBoxes();
        Check.rules(x, "$");
        Check.due("5: rules of " + text, Check.rules(x, text), count);
        Check.due("6: no FAULT in " + text, x.fault(0), 0);
        Check.due("6: no place of one in " + text, x.fault(1), NONE);
        Check.due("33: RULES of " + text, x.about(4), count);
        Check.due("5: the TAPE is empty after " + text, x.about(6), 0);
    }

    private static void refused(String text, int kind, int place) {
        GreyBoxes x = twoBoxes();
        Check.rules(x, "if 1 say wet;if 1 say dry;");
        Check.due("5: rules of " + text, Check.rules(x, text), NONE);
        Check.due("6: FAULT of " + text, x.fault(0), kind);
        Check.due("6: place of the FAULT of " + text, x.fault(1), place);
        Check.due("5: those there are stay, " + text, x.about(4), 2);
        Check.due("5: those there are stay, " + text, x.says(0, 0), 1);
        Check.due("5: the TAPE is empty after " + text, x.about(6), 0);
    }

    private static void holds(String e, boolean does) {
        GreyBoxes x = twoBoxes();
        Check.due("5: rules of " + e, Check.rules(x, "if " + e + " say dry;"), 1);
        Check.due("28: whether holds " + e, x.says(8, 0), does ? 0 : NONE);
    }

    private static void bytes() {
        String rule = "if 1 say wet;";
        GreyBoxes x = twoBoxes();
        Check.due("5: 500 bytes", Check.rules(x, rule + " ".repeat(487)), 1);
        Check.due("5: 500 bytes, the last one a ;", Check.rules(x, " ".repeat(474) + rule + rule), 2);
        for (int n : new int[] {501, 502, 520, 799, 800}) {
            Check.tape(x, rule + "$".repeat(n - rule.length()));
            Check.due("5: bytes are too many, " + n, x.rules(), -2);
            Check.due("5: the TAPE stays", x.about(6), n);
            Check.due("5: RULES stay", x.about(4), 2);
            Check.due("5: no FAULT of it", x.fault(0), 0);
        }
        x.end(rule.length());
        Check.due("5: what stayed on the TAPE", x.rules(), 1);
        Check.due("5: none at all", x.rules(), 0);
        Check.due("5: no RULES now", x.about(4), 0);
        Check.due("5: none says now", x.says(0, 0), NONE);
        Check.due("5: blanks alone", Check.rules(x, " \n"), 0);
        taken("", 0);
        taken(" ", 0);
    }

    private static void howManyRules() {
        for (int n = 1; n <= 6; n++) {
            taken("if 1 say wet;".repeat(n), n);
        }
        String six = "if 1 say wet;".repeat(6);
        refused(six + "if 1 say wet;", 2, six.length());
        refused(six + " if", 2, six.length() + 1);
        refused(six + " if $", 2, six.length() + 1);
        refused(six + "$", 1, six.length());
        GreyBoxes x = twoBoxes();
        Check.rules(x, "if 0 say dry;".repeat(5) + "if 1 say wet;");
        Check.due("28: the sixth says", x.says(0, 0), 1);
    }

    private static void howManyUnits() {
        String sixty = "if " + "1+".repeat(59) + "1";
        taken(sixty + " say wet;", 1);
        refused(sixty + "+1 say wet;", 2, sixty.length() + 1);
        refused(sixty + "+a say wet;", 2, sixty.length() + 1);
        refused(sixty + "*x say wet;", 2, sixty.length() + 1);
        refused(sixty + "+day say wet;", 2, sixty.length() + 1);
        refused(sixty + "+ last a say wet;", 2, sixty.length() + 2);
        refused(sixty + "+(1) say wet;", 2, sixty.length() + 1);
        refused(sixty + "+$", 1, sixty.length() + 1);
        refused(sixty + "+ say wet;", 2, sixty.length() + 2);
        refused(sixty + "++1 say wet;", 2, sixty.length() + 1);
        refused(sixty + "* *1 say wet;", 2, sixty.length() + 2);
        refused(sixty + " and say wet;", 2, sixty.length() + 5);
        refused(sixty + " or say wet;", 2, sixty.length() + 4);
        refused(sixty + "=say wet;", 2, sixty.length() + 1);
        refused(sixty + " and not 1 say wet;", 2, sixty.length() + 9);
        refused(sixty + " say wet;if 1 say wet;", 2, sixty.length() + 12);
        refused(sixty.substring(0, sixty.length() - 1) + "(1) say wet;", 2, sixty.length());
        String last = "if " + "last a+".repeat(59);
        taken(last + "last b say wet;", 1);
        refused(last + "last b+0 say wet;", 2, last.length() + 7);
        String parts = "if " + "(1)+".repeat(29);
        taken(parts + "(1) say wet;", 1);
        refused(parts + "(1)+1 say wet;", 2, parts.length() + 4);
        taken("if " + "1 and ".repeat(29) + "1 say wet;if " + "1+".repeat(29) + "1 say dry;", 2);
        refused("if " + "1 and ".repeat(30) + "1 say wet;if " + "1+".repeat(29) + "1 say dry;", 2, 3 + 180 + 10 + 3 + 58);
        taken("if " + "not ".repeat(7) + "1+".repeat(59) + "1 say wet;", 1);
        GreyBoxes x = twoBoxes();
        Check.rules(x, "if " + "1+".repeat(58) + "1=59 say wet;");
        Check.due("28: sixty units are reckoned", x.says(0, 0), 1);
        Check.rules(x, "if (" + "1+".repeat(50) + "(1+(1+(1+(1+(1 say wet;");
        Check.due("5: not closed", x.fault(0), 2);
    }

    private static void within() {
        for (int n = 1; n <= 7; n++) {
            taken("if " + "(".repeat(n) + "1" + ")".repeat(n) + " say wet;", 1);
            taken("if " + "not ".repeat(n) + "1 say wet;", 1);
            taken("if " + "(".repeat(7 - n) + "not ".repeat(n) + "1" + ")".repeat(7 - n) + " say wet;", 1);
            taken("if " + "not ".repeat(7 - n) + "(".repeat(n) + "1" + ")".repeat(n) + " say wet;", 1);
            refused("if " + "(".repeat(8 - n) + "not ".repeat(n) + "1" + ")".repeat(8 - n) + " say wet;", 2, 3 + 8 - n + 4 * n - 4);
            refused("if " + "not ".repeat(8 - n) + "(".repeat(n) + "1" + ")".repeat(n) + " say wet;", 2, 3 + 4 * (8 - n) + n - 1);
        }
        refused("if ((((((((1))))))))", 2, 10);
        refused("if " + "not ".repeat(8) + "1 say wet;", 2, 3 + 28);
        refused("if ((((((($", 1, 10);
        String seven = "(((((((1)))))))";
        taken("if " + seven + "+" + seven + " and " + seven + " or not 1 say wet;if " + seven + " say dry;", 2);
        taken("if (((((((1)+(1)))))))+(1) say wet;", 1);
        taken("if not not not not not not not 1 and not not not not not not not 1 say wet;", 1);
        refused("if (((((((1)+((1))))))))", 2, 14);
        taken("if ((((((not 1)))))) and ((((((not 1)))))) say wet;", 1);
        holds("(((((((7)))))))=7", true);
        holds("not not not not not not not 0", true);
        holds("not not not not not not not 1", false);
        holds("not (not (not (not 3)))", true);
    }

    private static void words() {
        for (String word : WORDS) {
            boolean alone = word.equals("day");
            boolean begins = word.equals("last") || word.equals("not");
            if (alone) {
                taken("if " + word + " say wet;", 1);
            } else {
                refused("if " + word + " say wet;", 2, begins ? 4 + word.length() : 3);
            }
            refused("if last " + word + " say wet;", 2, 8);
        }
        refused("if aa say wet;", 5, 3);
        refused("if last aa say wet;", 5, 8);
        refused("if c", 5, 3);
        refused("if a and c $", 5, 9);
        refused("if abcdefgh say wet;", 5, 3);
        refused("if abcdefghi say wet;", 1, 3);
        refused("if last abcdefghi say wet;", 1, 8);
        taken("if a say wet;if last b say dry;", 2);
        refused("if last 5", 2, 8);
        refused("if last (a)", 2, 8);
        refused("if last last a", 2, 8);
        GreyBoxes x = new GreyBoxes();
        Check.due("5: no BOX is told", Check.rules(x, "if a say wet;"), NONE);
        Check.due("5: no BOX is told", x.fault(0), 5);
        Check.due("5: no BOX is needed", Check.rules(x, "if day=3 say wet;"), 1);
        Check.due("28: no BOX is needed", x.says(3, 0), 1);
        Check.due("28: no BOX is needed", x.says(4, 0), NONE);
    }

    private static void numbers() {
        holds("9999=9998+1", true);
        holds("0009=9", true);
        refused("if 10000 say wet;", 1, 3);
        refused("if 00000 say wet;", 1, 3);
        refused("if 1x say wet;", 1, 3);
        refused("if 1say wet;", 1, 3);
        refused("if 1+1and 1 say wet;", 1, 5);
        taken("if 1 say wet;if(1)say dry;if a<1 say wet;", 3);
        taken("if a=b say wet;", 1);
        taken("if1 say\nwet\n;", 1);
        refused("if -1 say wet;", 2, 3);
        refused("if 1+-1 say wet;", 2, 5);
        refused("ifa say wet;", 2, 0);
    }

    private static void everyByteBehindANumber() {
        for (int b = 0; b < 256; b++) {
            char c = (char) b;
            String text = "if 1" + c + "1 say wet;";
            if (c >= 'a' && c <= 'z') {
                refused(text, 1, 3);
            } else if (c == ' ' || c == '\n') {
                refused(text, 2, 5);
            } else if (c >= '0' && c <= '9' || "<>=+-*".indexOf(c) >= 0) {
                taken(text, 1);
            } else {
                refused(text, SIGNS.indexOf(c) >= 0 ? 2 : 1, 4);
            }
        }
    }

    private static void everyByte() {
        for (int b = 0; b < 256; b++) {
            char c = (char) b;
            boolean stands = c >= 'a' && c <= 'z' || c >= '0' && c <= '9' || SIGNS.indexOf(c) >= 0;
            if (c == ' ' || c == '\n') {
                taken("if 1 say wet;" + c, 1);
            } else {
                refused("if 1 say wet;" + c, stands ? 2 : 1, 13);
            }
        }
    }

    private static void eachTokenIsNeeded(String text) {
        String[] tokens = text.split(" ");
        StringBuilder ahead = new StringBuilder();
        for (int i = 0; i < tokens.length; i++) {
            int place = ahead.length();
            if (i > 0 && !tokens[i - 1].equals(";")) {
                refused(ahead.toString(), 2, place);
                refused(ahead + " \n", 2, place + 2);
            }
            refused(ahead + (tokens[i].equals(";") ? ")" : ";"), 2, place);
            refused(ahead + "to", 2, place);
            refused(ahead + "$" + tokens[i], 1, place);
            ahead.append(tokens[i]).append(' ');
        }
        taken(ahead.toString(), text.split(";").length);
    }

    private static void grammar() {
        eachTokenIsNeeded("if a say wet ; if last a say dry ;");
        eachTokenIsNeeded("if not ( 1 < 2 ) or a * day + last b - 3 > 4 and ( a = 1 ) say wet ;");
        for (String sign : "< > =".split(" ")) {
            for (String other : "< > =".split(" ")) {
                refused("if 1" + sign + "2" + other + "3 say wet;", 2, 6);
            }
            refused("if 1" + sign + "not 2", 2, 5);
            refused("if " + sign, 2, 3);
        }
        for (String sign : "+ - *".split(" ")) {
            refused("if 1" + sign + "not 2", 2, 5);
            refused("if 1" + sign + sign, 2, 5);
        }
        refused("if () say wet;", 2, 4);
        refused("if (1 say wet;", 2, 6);
        refused("if 1) say wet;", 2, 4);
        refused("if 1 2 say wet;", 2, 5);
        refused("if 1 or or 1", 2, 8);
        refused("if 1 and or 1", 2, 9);
        refused("if 1 say dry wet", 2, 13);
        refused("if 1 say last", 2, 9);
        refused("if say wet;", 2, 3);
        refused("if 1 say wet;;", 2, 13);
    }

    private static void whatIsReckoned() {
        holds("2+3*4=14", true);
        holds("2*3+4=10", true);
        holds("9-3-2=4", true);
        holds("9-3+2=8", true);
        holds("2*3*4=24", true);
        holds("1<1", false);
        holds("0<1", true);
        holds("1<0", false);
        holds("1>1", false);
        holds("1>0", true);
        holds("0>1", false);
        holds("1=1", true);
        holds("1=0", false);
        holds("0-1", true);
        holds("0-1<0", true);
        holds("1-1", false);
        holds("(5 and 7)=1", true);
        holds("(5 and 0)=0", true);
        holds("(0 and 7)=0", true);
        holds("(0 or 0)=0", true);
        holds("(5 or 0)=1", true);
        holds("(0 or 5)=1", true);
        holds("(5 or 5)=1", true);
        holds("(not 5)=0", true);
        holds("(not 0)=1", true);
        holds("(not (0-1))=0", true);
        holds("((0-1) and (0-2))=1", true);
        holds("(2<3)=1", true);
        holds("(3<2)=0", true);
        holds("1 or 1 and 0", true);
        holds("0 and 1 or 1", true);
        holds("0 and (1 or 1)", false);
        holds("not 1 or 1", true);
        holds("not (1 or 1)", false);
        holds("not 0 and 0", false);
        holds("not 5=5", false);
        holds("a=5", true);
        holds("last a=3", true);
        holds("day=8", true);
        holds("last a+a*day=43", true);
    }

    /** Ints wrap: on either side of the greatest, of the least, and by a product. */
    private static void wrapping() {
        String most = "(64*4096*8191+64*4096-1)";
        holds(most + ">0", true);
        holds(most + "+1<0", true);
        holds(most + "+1=0-" + most + "-1", true);
        holds("0-" + most + "-1<0", true);
        holds("0-" + most + "-2=" + most, true);
        holds("4096*4096*256=0", true);
        holds("4096*4096*128<0", true);
        holds("4096*4096*127>0", true);
        holds("not (4096*4096*256)", true);
        holds("4096*4096*256", false);
        holds("4096*4096*128 and 1", true);
    }

    private static void whatIsNotThere() {
        holds("b or 1", false);
        holds("1 or b", false);
        holds("not b", false);
        holds("0 and b or 1", false);
        holds("b=b", false);
        holds("last b=0 or 1", false);
        holds("1 or (0*last b)", false);
        GreyBoxes x = twoBoxes();
        Check.rules(x, "if b=b say wet;if a+1 say dry;if last a+1 say wet;");
        Check.due("28: a rule behind one that does not hold", x.says(8, 0), 0);
        Check.due("28: the DAY behind", x.says(9, 0), 1);
        Check.due("28: none", x.says(10, 0), NONE);
        Check.due("28: none", x.says(6, 0), NONE);
        x.read(0, 0, 0, 1);
        x.read(0, 59, 0, 1);
        Check.due("28: on the first DAY", x.says(0, 0), 0);
        Check.due("28: on the last DAY", x.says(59, 0), 0);
        Check.due("28: there is no such DAY", x.says(60, 0), NONE);
        Check.due("28: there is no such DAY", x.says(-1, 0), NONE);
        Check.due("28: not known yet", x.says(8, -1), NONE);
        Check.rules(x, "if last a say wet;if last a or 1 say dry;if 1 say dry;");
        Check.due("28: no DAY is ahead of the first", x.says(0, 0), 0);
        Check.rules(x, "if last a=1 say wet;");
        Check.due("28: no DAY is ahead of the first", x.says(0, 0), NONE);
        Check.due("28: the first is ahead of the second", x.says(1, 0), 1);
        Check.rules(x, "if 1 say wet;");
        Check.due("28: the first DAY of all", x.says(0, 0), 1);
        Check.due("28: the last DAY of all", x.says(59, 0), 1);
        Check.due("28: above all", x.says(60, 0), NONE);
        Check.due("28: below all", x.says(-1, 0), NONE);
        Check.due("28: far above all", x.says(Integer.MAX_VALUE, 0), NONE);
        Check.due("28: far below all", x.says(Integer.MIN_VALUE, 0), NONE);
        x.doubt(0, true);
        Check.rules(x, "if a say wet;");
        Check.due("28: by one who is DOUBTED", x.says(8, 0), NONE);
    }

    private static void readingsOfAllSizes() {
        GreyBoxes x = twoBoxes();
        for (int number : new int[] {-999, -1, 0, 999}) {
            x.read(0, 20, 0, number);
            Check.rules(x, "if a=" + (number < 0 ? "0-" + -number : "" + number) + " say wet;");
            Check.due("28: a READING of " + number, x.says(20, 0), 1);
        }
    }

    private static void refusedCallsDoNothing() {
        for (String text : new String[] {"$", "if", "if x say wet;", "if 12345", "if 1 say wet;".repeat(7), "if ((((((((1"}) {
            Scene.untouchedButTextBy("5: a FAULT, " + text, x -> Check.due("5: rules of " + text, Check.rules(x, text), NONE));
        }
        GreyBoxes x = Scene.make();
        GreyBoxes y = Scene.make();
        Check.tape(x, " ".repeat(501));
        Check.tape(y, " ".repeat(501));
        Check.due("5: -2", x.rules(), -2);
        Check.due("5: by -2 all stays", Scene.view(x).equals(Scene.view(y)), true);
        Scene.untouchedBy("28: saying", z -> z.says(3, 7));
        Scene.untouchedBy("28: saying of no DAY", z -> z.says(60, 7));
    }

    private static void rulesTouchNothingElse() {
        GreyBoxes x = Scene.make();
        int[] want = new int[8];
        for (int what = 0; what < 8; what++) {
            want[what] = x.about(what);
        }
        want[4] = 1;
        want[6] = 0;
        Check.due("5: other RULES", x.rules(), 1);
        for (int what = 0; what < 8; what++) {
            Check.due("5: after other RULES, about(" + what + ")", x.about(what), want[what]);
        }
    }

    public static void main(String[] args) {
        bytes();
        howManyRules();
        howManyUnits();
        within();
        words();
        numbers();
        everyByte();
        everyByteBehindANumber();
        grammar();
        whatIsReckoned();
        wrapping();
        whatIsNotThere();
        readingsOfAllSizes();
        refusedCallsDoNothing();
        rulesTouchNothingElse();
        Check.finish();
    }
}
