import java.nio.ByteBuffer;
import java.nio.charset.StandardCharsets;
import java.util.Arrays;

public final class ReadmeExample {
    /** Twenty bytes come on the TAPE at a time, so what is too much at its end is cut off again. */
    static void tape(GreyBoxes x, String text) {
        byte[] bytes = text.getBytes(StandardCharsets.ISO_8859_1);
        ByteBuffer twenties = ByteBuffer.wrap(Arrays.copyOf(bytes, (bytes.length + 19) / 20 * 20));
        x.end(0);
        while (twenties.hasRemaining()) {
            x.feed(twenties.getInt(), twenties.getInt(), twenties.getInt(), twenties.getInt(), twenties.getInt());
        }
        x.end(bytes.length);
    }

    public static void main(String[] args) {
        GreyBoxes x = new GreyBoxes();

        // THE HILL: a BOX (number 0) whose zero and lag are not known, and DAYS on which RULES are not TRIED.
        tape(x, "box hut warm zero -2 to 2 slope 10 to 10 lag 0 to 1 tire 0 to 0 off 0; made 0 to 1;");
        System.out.println("lines of THE HILL: " + x.hill());

        // FACTS: FAR of QUANTITY 0 (warm) on DAYS 0 to 4, and what readers 7 and 8 read off BOX 0.
        int[] warm = {10, 14, 12, 20, 16};
        int[] read = {11, 15, 13, 13, 17};
        for (int day = 0; day < warm.length; day++) {
            x.far(0, day, warm[day]);
            x.read(0, day, day == 3 ? 8 : 7, read[day]);
        }
        x.share(1, true);
        x.share(2, true);

        // The last number of a question is the TIME k as known at which it is answered.
        System.out.println("LAWS: " + x.laws(0, 0, 0) + ", zero " + x.law(0, 0, 0, 0, 0) + ", lag " + x.law(0, 0, 0, 2, 0));
        System.out.println("BOX 0 SHOWS on DAY 3: " + x.shows(0, 3, 0));
        System.out.println("WRONG on DAY 3: " + x.wrong(0, 3, 0) + ", by the HABIT of reader " + x.habit(0, 0));
        System.out.println("RIGHT on DAY 4: " + x.right(0, 4, false, 0) + " to " + x.right(0, 4, true, 0));
        System.out.println("a DAY without a READING: " + (x.right(0, 5, true, 0) == GreyBoxes.GAP ? "GAP" : "a number"));

        // What is UNTOLD at TIME 3 is known still at an earlier one. Reader 8's READING is FACT 7.
        x.later(3);
        x.untell(7);
        System.out.println("READING of DAY 3 at TIMES 2 and 3: " + x.reading(0, 3, 2) + ", " + x.reading(0, 3, 3));

        // RULES, TRIED on DAYS 2 and 4 by FAR of rain (QUANTITY 2) on the DAY behind each.
        tape(x, "if last hut > hut say wet; if day > 3 say dry;");
        System.out.println("RULES: " + x.rules());
        x.far(2, 3, 6);
        x.far(2, 5, 0);
        System.out.println("TRIED: " + x.tried(0, 3) + ", RIGHT: " + x.tried(1, 3) + ", WORTH: " + x.tried(2, 3));
        System.out.println("LUCK: " + x.luck(0, 3) + " of " + x.luck(1, 3));

        // A text with a FAULT changes nothing but the TAPE, which is empty then.
        tape(x, "if hut > shed say wet;");
        System.out.println("refused: " + (x.rules() == GreyBoxes.NONE) + ", FAULT " + x.fault(0) + " at byte " + x.fault(1));
        System.out.println("RULES there are: " + x.about(4));
    }
}
